set_option maxRecDepth 20000 in
theorem ggX0_init_X2_init : GoodIn wsX0_init wsX2_init := goodIn_r _ [13, 14, 2, 3, 15, 16, 17, 22, 23] (by decide +kernel) (by decide +kernel)
set_option maxRecDepth 20000 in
theorem gX0_init_X2_init : GoodIn wsX0_init (wsX2_init) := ggX0_init_X2_init
theorem dX0_init_0 : decode cX0_init 0 = .ok (.aload_n 0, 1) := by decide +kernel
theorem dX0_init_1 : decode cX0_init 1 = .ok (.invokespecial 3, 3) := by decide +kernel
theorem dX0_init_4 : decode cX0_init 4 = .ok (.aload_n 0, 1) := by decide +kernel
theorem dX0_init_5 : decode cX0_init 5 = .ok (.bipush 13, 2) := by decide +kernel
theorem dX0_init_7 : decode cX0_init 7 = .ok (.anewarray 11, 3) := by decide +kernel
theorem dX0_init_10 : decode cX0_init 10 = .ok (.putfield 13, 3) := by decide +kernel
theorem dX0_init_13 : decode cX0_init 13 = .ok (.iconst 0, 1) := by decide +kernel
theorem dX0_init_14 : decode cX0_init 14 = .ok (.istore_n 1, 1) := by decide +kernel
theorem dX0_init_15 : decode cX0_init 15 = .ok (.iload_n 1, 1) := by decide +kernel
theorem dX0_init_16 : decode cX0_init 16 = .ok (.bipush 13, 2) := by decide +kernel
theorem dX0_init_18 : decode cX0_init 18 = .ok (.if_icmp .ge 25, 3) := by decide +kernel
theorem dX0_init_21 : decode cX0_init 21 = .ok (.aload_n 0, 1) := by decide +kernel
theorem dX0_init_22 : decode cX0_init 22 = .ok (.getfield 13, 3) := by decide +kernel
theorem dX0_init_25 : decode cX0_init 25 = .ok (.iload_n 1, 1) := by decide +kernel
theorem dX0_init_26 : decode cX0_init 26 = .ok (.new 11, 3) := by decide +kernel
theorem dX0_init_29 : decode cX0_init 29 = .ok (.dup, 1) := by decide +kernel
theorem dX0_init_30 : decode cX0_init 30 = .ok (.sipush 240, 3) := by decide +kernel
theorem dX0_init_33 : decode cX0_init 33 = .ok (.invokespecial 17, 3) := by decide +kernel
theorem dX0_init_36 : decode cX0_init 36 = .ok (.aastore, 1) := by decide +kernel
theorem dX0_init_37 : decode cX0_init 37 = .ok (.iinc 1 1, 3) := by decide +kernel
theorem dX0_init_40 : decode cX0_init 40 = .ok (.goto (-25), 3) := by decide +kernel
theorem dX0_init_43 : decode cX0_init 43 = .ok (.aload_n 0, 1) := by decide +kernel
theorem dX0_init_44 : decode cX0_init 44 = .ok (.iconst 0, 1) := by decide +kernel
theorem dX0_init_45 : decode cX0_init 45 = .ok (.putfield 20, 3) := by decide +kernel
theorem dX0_init_48 : decode cX0_init 48 = .ok (.aload_n 0, 1) := by decide +kernel
theorem dX0_init_49 : decode cX0_init 49 = .ok (.iconst 0, 1) := by decide +kernel
theorem dX0_init_50 : decode cX0_init 50 = .ok (.putfield 24, 3) := by decide +kernel
theorem dX0_init_53 : decode cX0_init 53 = .ok (.aload_n 0, 1) := by decide +kernel
theorem dX0_init_54 : decode cX0_init 54 = .ok (.iconst 0, 1) := by decide +kernel
theorem dX0_init_55 : decode cX0_init 55 = .ok (.putfield 27, 3) := by decide +kernel
theorem dX0_init_58 : decode cX0_init 58 = .ok (.return_, 1) := by decide +kernel
theorem dX0_present_0 : decode cX0_present 0 = .ok (.aload_n 0, 1) := by decide +kernel
theorem dX0_present_1 : decode cX0_present 1 = .ok (.getfield 13, 3) := by decide +kernel
theorem dX0_present_4 : decode cX0_present 4 = .ok (.aload_n 0, 1) := by decide +kernel
theorem dX0_present_5 : decode cX0_present 5 = .ok (.getfield 20, 3) := by decide +kernel
theorem dX0_present_8 : decode cX0_present 8 = .ok (.aaload, 1) := by decide +kernel
theorem dX0_present_9 : decode cX0_present 9 = .ok (.areturn, 1) := by decide +kernel
theorem dX0_pastSize_0 : decode cX0_pastSize 0 = .ok (.aload_n 0, 1) := by decide +kernel
theorem dX0_pastSize_1 : decode cX0_pastSize 1 = .ok (.getfield 24, 3) := by decide +kernel
theorem dX0_pastSize_4 : decode cX0_pastSize 4 = .ok (.ireturn, 1) := by decide +kernel
theorem dX0_futureSize_0 : decode cX0_futureSize 0 = .ok (.aload_n 0, 1) := by decide +kernel
theorem dX0_futureSize_1 : decode cX0_futureSize 1 = .ok (.getfield 27, 3) := by decide +kernel
theorem dX0_futureSize_4 : decode cX0_futureSize 4 = .ok (.ireturn, 1) := by decide +kernel
set_option maxRecDepth 20000 in
theorem ggX0_keep_X2_empty : GoodIn wsX0_keep wsX2_empty := goodIn_r _ [13, 14, 32, 33] (by decide +kernel) (by decide +kernel)
set_option maxRecDepth 20000 in
theorem gX0_keep_X2_empty : GoodIn wsX0_keep (wsV RX0 30 RX2 yX2_empty wsX2_empty) := goodIn_app (goodIn_of _ (by decide +kernel)) ggX0_keep_X2_empty
set_option maxRecDepth 20000 in
theorem ggX0_keep_X2_size : GoodIn wsX0_keep wsX2_size := goodIn_r _ [18, 14, 32, 33] (by decide +kernel) (by decide +kernel)
set_option maxRecDepth 20000 in
theorem gX0_keep_X2_size : GoodIn wsX0_keep (wsV RX0 33 RX2 yX2_size wsX2_size) := goodIn_app (goodIn_of _ (by decide +kernel)) ggX0_keep_X2_size
set_option maxRecDepth 20000 in
theorem ggX0_keep_X2_addPart : GoodIn wsX0_keep wsX2_addPart := goodIn_r _ [22, 23, 14, 24, 25, 26, 27, 32, 33] (by decide +kernel) (by decide +kernel)
set_option maxRecDepth 20000 in
theorem gX0_keep_X2_addPart : GoodIn wsX0_keep (wsV RX0 37 RX2 yX2_addPart wsX2_addPart) := goodIn_app (goodIn_of _ (by decide +kernel)) ggX0_keep_X2_addPart
theorem dX0_keep_0 : decode cX0_keep 0 = .ok (.aload_n 0, 1) := by decide +kernel
theorem dX0_keep_1 : decode cX0_keep 1 = .ok (.aload_n 0, 1) := by decide +kernel
theorem dX0_keep_2 : decode cX0_keep 2 = .ok (.getfield 20, 3) := by decide +kernel
theorem dX0_keep_5 : decode cX0_keep 5 = .ok (.iconst 1, 1) := by decide +kernel
theorem dX0_keep_6 : decode cX0_keep 6 = .ok (.iadd, 1) := by decide +kernel
theorem dX0_keep_7 : decode cX0_keep 7 = .ok (.bipush 13, 2) := by decide +kernel
theorem dX0_keep_9 : decode cX0_keep 9 = .ok (.irem, 1) := by decide +kernel
theorem dX0_keep_10 : decode cX0_keep 10 = .ok (.putfield 20, 3) := by decide +kernel
theorem dX0_keep_13 : decode cX0_keep 13 = .ok (.aload_n 0, 1) := by decide +kernel
theorem dX0_keep_14 : decode cX0_keep 14 = .ok (.getfield 13, 3) := by decide +kernel
theorem dX0_keep_17 : decode cX0_keep 17 = .ok (.aload_n 0, 1) := by decide +kernel
theorem dX0_keep_18 : decode cX0_keep 18 = .ok (.getfield 20, 3) := by decide +kernel
theorem dX0_keep_21 : decode cX0_keep 21 = .ok (.aaload, 1) := by decide +kernel
theorem dX0_keep_22 : decode cX0_keep 22 = .ok (.invokevirtual 30, 3) := by decide +kernel
theorem dX0_keep_25 : decode cX0_keep 25 = .ok (.aload_n 0, 1) := by decide +kernel
theorem dX0_keep_26 : decode cX0_keep 26 = .ok (.getfield 13, 3) := by decide +kernel
theorem dX0_keep_29 : decode cX0_keep 29 = .ok (.aload_n 0, 1) := by decide +kernel
theorem dX0_keep_30 : decode cX0_keep 30 = .ok (.getfield 20, 3) := by decide +kernel
theorem dX0_keep_33 : decode cX0_keep 33 = .ok (.aaload, 1) := by decide +kernel
theorem dX0_keep_34 : decode cX0_keep 34 = .ok (.aload_n 1, 1) := by decide +kernel
theorem dX0_keep_35 : decode cX0_keep 35 = .ok (.iconst 0, 1) := by decide +kernel
theorem dX0_keep_36 : decode cX0_keep 36 = .ok (.aload_n 1, 1) := by decide +kernel
theorem dX0_keep_37 : decode cX0_keep 37 = .ok (.invokevirtual 33, 3) := by decide +kernel
theorem dX0_keep_40 : decode cX0_keep 40 = .ok (.invokevirtual 37, 3) := by decide +kernel
theorem dX0_keep_43 : decode cX0_keep 43 = .ok (.aload_n 0, 1) := by decide +kernel
theorem dX0_keep_44 : decode cX0_keep 44 = .ok (.aload_n 0, 1) := by decide +kernel
theorem dX0_keep_45 : decode cX0_keep 45 = .ok (.getfield 24, 3) := by decide +kernel
theorem dX0_keep_48 : decode cX0_keep 48 = .ok (.iconst 1, 1) := by decide +kernel
theorem dX0_keep_49 : decode cX0_keep 49 = .ok (.iadd, 1) := by decide +kernel
theorem dX0_keep_50 : decode cX0_keep 50 = .ok (.bipush 12, 2) := by decide +kernel
theorem dX0_keep_52 : decode cX0_keep 52 = .ok (.invokestatic 41, 3) := by decide +kernel
theorem dX0_keep_55 : decode cX0_keep 55 = .ok (.putfield 24, 3) := by decide +kernel
theorem dX0_keep_58 : decode cX0_keep 58 = .ok (.aload_n 0, 1) := by decide +kernel
theorem dX0_keep_59 : decode cX0_keep 59 = .ok (.iconst 0, 1) := by decide +kernel
theorem dX0_keep_60 : decode cX0_keep 60 = .ok (.putfield 27, 3) := by decide +kernel
theorem dX0_keep_63 : decode cX0_keep 63 = .ok (.return_, 1) := by decide +kernel
theorem dX0_stepBack_0 : decode cX0_stepBack 0 = .ok (.aload_n 0, 1) := by decide +kernel
theorem dX0_stepBack_1 : decode cX0_stepBack 1 = .ok (.aload_n 0, 1) := by decide +kernel
theorem dX0_stepBack_2 : decode cX0_stepBack 2 = .ok (.getfield 20, 3) := by decide +kernel
theorem dX0_stepBack_5 : decode cX0_stepBack 5 = .ok (.bipush 13, 2) := by decide +kernel
theorem dX0_stepBack_7 : decode cX0_stepBack 7 = .ok (.iadd, 1) := by decide +kernel
theorem dX0_stepBack_8 : decode cX0_stepBack 8 = .ok (.iconst 1, 1) := by decide +kernel
theorem dX0_stepBack_9 : decode cX0_stepBack 9 = .ok (.isub, 1) := by decide +kernel
theorem dX0_stepBack_10 : decode cX0_stepBack 10 = .ok (.bipush 13, 2) := by decide +kernel
theorem dX0_stepBack_12 : decode cX0_stepBack 12 = .ok (.irem, 1) := by decide +kernel
theorem dX0_stepBack_13 : decode cX0_stepBack 13 = .ok (.putfield 20, 3) := by decide +kernel
theorem dX0_stepBack_16 : decode cX0_stepBack 16 = .ok (.aload_n 0, 1) := by decide +kernel
theorem dX0_stepBack_17 : decode cX0_stepBack 17 = .ok (.dup, 1) := by decide +kernel
theorem dX0_stepBack_18 : decode cX0_stepBack 18 = .ok (.getfield 24, 3) := by decide +kernel
theorem dX0_stepBack_21 : decode cX0_stepBack 21 = .ok (.iconst 1, 1) := by decide +kernel
theorem dX0_stepBack_22 : decode cX0_stepBack 22 = .ok (.isub, 1) := by decide +kernel
theorem dX0_stepBack_23 : decode cX0_stepBack 23 = .ok (.putfield 24, 3) := by decide +kernel
theorem dX0_stepBack_26 : decode cX0_stepBack 26 = .ok (.aload_n 0, 1) := by decide +kernel
theorem dX0_stepBack_27 : decode cX0_stepBack 27 = .ok (.dup, 1) := by decide +kernel
theorem dX0_stepBack_28 : decode cX0_stepBack 28 = .ok (.getfield 27, 3) := by decide +kernel
theorem dX0_stepBack_31 : decode cX0_stepBack 31 = .ok (.iconst 1, 1) := by decide +kernel
theorem dX0_stepBack_32 : decode cX0_stepBack 32 = .ok (.iadd, 1) := by decide +kernel
theorem dX0_stepBack_33 : decode cX0_stepBack 33 = .ok (.putfield 27, 3) := by decide +kernel
theorem dX0_stepBack_36 : decode cX0_stepBack 36 = .ok (.return_, 1) := by decide +kernel
theorem dX0_stepOn_0 : decode cX0_stepOn 0 = .ok (.aload_n 0, 1) := by decide +kernel
theorem dX0_stepOn_1 : decode cX0_stepOn 1 = .ok (.aload_n 0, 1) := by decide +kernel
theorem dX0_stepOn_2 : decode cX0_stepOn 2 = .ok (.getfield 20, 3) := by decide +kernel
theorem dX0_stepOn_5 : decode cX0_stepOn 5 = .ok (.iconst 1, 1) := by decide +kernel
theorem dX0_stepOn_6 : decode cX0_stepOn 6 = .ok (.iadd, 1) := by decide +kernel
theorem dX0_stepOn_7 : decode cX0_stepOn 7 = .ok (.bipush 13, 2) := by decide +kernel
theorem dX0_stepOn_9 : decode cX0_stepOn 9 = .ok (.irem, 1) := by decide +kernel
theorem dX0_stepOn_10 : decode cX0_stepOn 10 = .ok (.putfield 20, 3) := by decide +kernel
theorem dX0_stepOn_13 : decode cX0_stepOn 13 = .ok (.aload_n 0, 1) := by decide +kernel
theorem dX0_stepOn_14 : decode cX0_stepOn 14 = .ok (.dup, 1) := by decide +kernel
theorem dX0_stepOn_15 : decode cX0_stepOn 15 = .ok (.getfield 24, 3) := by decide +kernel
theorem dX0_stepOn_18 : decode cX0_stepOn 18 = .ok (.iconst 1, 1) := by decide +kernel
theorem dX0_stepOn_19 : decode cX0_stepOn 19 = .ok (.iadd, 1) := by decide +kernel
theorem dX0_stepOn_20 : decode cX0_stepOn 20 = .ok (.putfield 24, 3) := by decide +kernel
theorem dX0_stepOn_23 : decode cX0_stepOn 23 = .ok (.aload_n 0, 1) := by decide +kernel
theorem dX0_stepOn_24 : decode cX0_stepOn 24 = .ok (.dup, 1) := by decide +kernel
theorem dX0_stepOn_25 : decode cX0_stepOn 25 = .ok (.getfield 27, 3) := by decide +kernel
theorem dX0_stepOn_28 : decode cX0_stepOn 28 = .ok (.iconst 1, 1) := by decide +kernel
theorem dX0_stepOn_29 : decode cX0_stepOn 29 = .ok (.isub, 1) := by decide +kernel
theorem dX0_stepOn_30 : decode cX0_stepOn 30 = .ok (.putfield 27, 3) := by decide +kernel
theorem dX0_stepOn_33 : decode cX0_stepOn 33 = .ok (.return_, 1) := by decide +kernel
set_option maxRecDepth 20000 in
theorem ggX0_forget_X2_empty : GoodIn wsX0_forget wsX2_empty := goodIn_r _ [9, 10, 15, 16] (by decide +kernel) (by decide +kernel)
set_option maxRecDepth 20000 in
theorem gX0_forget_X2_empty : GoodIn wsX0_forget (wsV RX0 30 RX2 yX2_empty wsX2_empty) := goodIn_app (goodIn_of _ (by decide +kernel)) ggX0_forget_X2_empty
theorem dX0_forget_0 : decode cX0_forget 0 = .ok (.aload_n 0, 1) := by decide +kernel
theorem dX0_forget_1 : decode cX0_forget 1 = .ok (.getfield 13, 3) := by decide +kernel
theorem dX0_forget_4 : decode cX0_forget 4 = .ok (.aload_n 0, 1) := by decide +kernel
theorem dX0_forget_5 : decode cX0_forget 5 = .ok (.getfield 20, 3) := by decide +kernel
theorem dX0_forget_8 : decode cX0_forget 8 = .ok (.aaload, 1) := by decide +kernel
theorem dX0_forget_9 : decode cX0_forget 9 = .ok (.invokevirtual 30, 3) := by decide +kernel
theorem dX0_forget_12 : decode cX0_forget 12 = .ok (.aload_n 0, 1) := by decide +kernel
theorem dX0_forget_13 : decode cX0_forget 13 = .ok (.iconst 0, 1) := by decide +kernel
theorem dX0_forget_14 : decode cX0_forget 14 = .ok (.putfield 24, 3) := by decide +kernel
theorem dX0_forget_17 : decode cX0_forget 17 = .ok (.aload_n 0, 1) := by decide +kernel
theorem dX0_forget_18 : decode cX0_forget 18 = .ok (.iconst 0, 1) := by decide +kernel
theorem dX0_forget_19 : decode cX0_forget 19 = .ok (.putfield 27, 3) := by decide +kernel
theorem dX0_forget_22 : decode cX0_forget 22 = .ok (.return_, 1) := by decide +kernel
theorem dX1_init_0 : decode cX1_init 0 = .ok (.aload_n 0, 1) := by decide +kernel
theorem dX1_init_1 : decode cX1_init 1 = .ok (.invokespecial 3, 3) := by decide +kernel
theorem dX1_init_4 : decode cX1_init 4 = .ok (.aload_n 0, 1) := by decide +kernel
theorem dX1_init_5 : decode cX1_init 5 = .ok (.sipush 240, 3) := by decide +kernel
theorem dX1_init_8 : decode cX1_init 8 = .ok (.newarray .int, 2) := by decide +kernel
theorem dX1_init_10 : decode cX1_init 10 = .ok (.putfield 9, 3) := by decide +kernel
theorem dX1_init_13 : decode cX1_init 13 = .ok (.aload_n 0, 1) := by decide +kernel
theorem dX1_init_14 : decode cX1_init 14 = .ok (.sipush 241, 3) := by decide +kernel
theorem dX1_init_17 : decode cX1_init 17 = .ok (.newarray .int, 2) := by decide +kernel
theorem dX1_init_19 : decode cX1_init 19 = .ok (.putfield 15, 3) := by decide +kernel
theorem dX1_init_22 : decode cX1_init 22 = .ok (.aload_n 0, 1) := by decide +kernel
theorem dX1_init_23 : decode cX1_init 23 = .ok (.iconst 0, 1) := by decide +kernel
theorem dX1_init_24 : decode cX1_init 24 = .ok (.putfield 18, 3) := by decide +kernel
theorem dX1_init_27 : decode cX1_init 27 = .ok (.return_, 1) := by decide +kernel
theorem dX1_size_0 : decode cX1_size 0 = .ok (.aload_n 0, 1) := by decide +kernel
theorem dX1_size_1 : decode cX1_size 1 = .ok (.getfield 18, 3) := by decide +kernel
theorem dX1_size_4 : decode cX1_size 4 = .ok (.ireturn, 1) := by decide +kernel
theorem dX1_get_0 : decode cX1_get 0 = .ok (.aload_n 0, 1) := by decide +kernel
theorem dX1_get_1 : decode cX1_get 1 = .ok (.getfield 9, 3) := by decide +kernel
theorem dX1_get_4 : decode cX1_get 4 = .ok (.iload_n 1, 1) := by decide +kernel
theorem dX1_get_5 : decode cX1_get 5 = .ok (.iaload, 1) := by decide +kernel
theorem dX1_get_6 : decode cX1_get 6 = .ok (.ireturn, 1) := by decide +kernel
theorem dX1_set_0 : decode cX1_set 0 = .ok (.aload_n 0, 1) := by decide +kernel
theorem dX1_set_1 : decode cX1_set 1 = .ok (.getfield 9, 3) := by decide +kernel
theorem dX1_set_4 : decode cX1_set 4 = .ok (.iload_n 1, 1) := by decide +kernel
theorem dX1_set_5 : decode cX1_set 5 = .ok (.iload_n 2, 1) := by decide +kernel
theorem dX1_set_6 : decode cX1_set 6 = .ok (.iastore, 1) := by decide +kernel
theorem dX1_set_7 : decode cX1_set 7 = .ok (.return_, 1) := by decide +kernel
theorem dX1_forget_0 : decode cX1_forget 0 = .ok (.aload_n 0, 1) := by decide +kernel
theorem dX1_forget_1 : decode cX1_forget 1 = .ok (.iconst 0, 1) := by decide +kernel
theorem dX1_forget_2 : decode cX1_forget 2 = .ok (.putfield 18, 3) := by decide +kernel
theorem dX1_forget_5 : decode cX1_forget 5 = .ok (.return_, 1) := by decide +kernel
set_option maxRecDepth 20000 in
theorem ggX1_writeDown_X2_size : GoodIn wsX1_writeDown wsX2_size := goodIn_r _ [6, 7, 26, 27] (by decide +kernel) (by decide +kernel)
set_option maxRecDepth 20000 in
theorem gX1_writeDown_X2_size : GoodIn wsX1_writeDown (wsV RX1 22 RX2 yX2_size wsX2_size) := goodIn_app (goodIn_of _ (by decide +kernel)) ggX1_writeDown_X2_size
set_option maxRecDepth 20000 in
theorem ggX1_writeDown_X2_get : GoodIn wsX1_writeDown wsX2_get := goodIn_r _ [11, 12, 26, 27] (by decide +kernel) (by decide +kernel)
set_option maxRecDepth 20000 in
theorem gX1_writeDown_X2_get : GoodIn wsX1_writeDown (wsV RX1 28 RX2 yX2_get wsX2_get) := goodIn_app (goodIn_of _ (by decide +kernel)) ggX1_writeDown_X2_get
set_option maxRecDepth 20000 in
theorem ggX1_writeDown_X1_numberOf : GoodIn wsX1_writeDown wsX1_numberOf := goodIn_r _ [17, 1, 18, 23, 24, 25] (by decide +kernel) (by decide +kernel)
set_option maxRecDepth 20000 in
theorem gX1_writeDown_X1_numberOf : GoodIn wsX1_writeDown (wsV RX1 32 RX1 yX1_numberOf wsX1_numberOf) := goodIn_app (goodIn_of _ (by decide +kernel)) ggX1_writeDown_X1_numberOf
set_option maxRecDepth 20000 in
theorem ggX1_writeDown_X1_addWord : GoodIn wsX1_writeDown wsX1_addWord := goodIn_r _ [22, 18, 1, 23, 24, 25] (by decide +kernel) (by decide +kernel)
set_option maxRecDepth 20000 in
theorem gX1_writeDown_X1_addWord : GoodIn wsX1_writeDown (wsV RX1 36 RX1 yX1_addWord wsX1_addWord) := goodIn_app (goodIn_of _ (by decide +kernel)) ggX1_writeDown_X1_addWord
theorem dX1_writeDown_0 : decode cX1_writeDown 0 = .ok (.aload_n 0, 1) := by decide +kernel
theorem dX1_writeDown_1 : decode cX1_writeDown 1 = .ok (.iconst 0, 1) := by decide +kernel
theorem dX1_writeDown_2 : decode cX1_writeDown 2 = .ok (.putfield 18, 3) := by decide +kernel
theorem dX1_writeDown_5 : decode cX1_writeDown 5 = .ok (.iconst 0, 1) := by decide +kernel
theorem dX1_writeDown_6 : decode cX1_writeDown 6 = .ok (.istore_n 2, 1) := by decide +kernel
theorem dX1_writeDown_7 : decode cX1_writeDown 7 = .ok (.iconst 0, 1) := by decide +kernel
theorem dX1_writeDown_8 : decode cX1_writeDown 8 = .ok (.istore_n 3, 1) := by decide +kernel
theorem dX1_writeDown_9 : decode cX1_writeDown 9 = .ok (.iload_n 3, 1) := by decide +kernel
theorem dX1_writeDown_10 : decode cX1_writeDown 10 = .ok (.aload_n 1, 1) := by decide +kernel
theorem dX1_writeDown_11 : decode cX1_writeDown 11 = .ok (.invokevirtual 22, 3) := by decide +kernel
theorem dX1_writeDown_14 : decode cX1_writeDown 14 = .ok (.if_icmp .ge 45, 3) := by decide +kernel
theorem dX1_writeDown_17 : decode cX1_writeDown 17 = .ok (.sipush 257, 3) := by decide +kernel
theorem dX1_writeDown_20 : decode cX1_writeDown 20 = .ok (.iload_n 2, 1) := by decide +kernel
theorem dX1_writeDown_21 : decode cX1_writeDown 21 = .ok (.imul, 1) := by decide +kernel
theorem dX1_writeDown_22 : decode cX1_writeDown 22 = .ok (.aload_n 1, 1) := by decide +kernel
theorem dX1_writeDown_23 : decode cX1_writeDown 23 = .ok (.iload_n 3, 1) := by decide +kernel
theorem dX1_writeDown_24 : decode cX1_writeDown 24 = .ok (.invokevirtual 28, 3) := by decide +kernel
theorem dX1_writeDown_27 : decode cX1_writeDown 27 = .ok (.iadd, 1) := by decide +kernel
theorem dX1_writeDown_28 : decode cX1_writeDown 28 = .ok (.istore 4, 2) := by decide +kernel
theorem dX1_writeDown_30 : decode cX1_writeDown 30 = .ok (.aload_n 0, 1) := by decide +kernel
theorem dX1_writeDown_31 : decode cX1_writeDown 31 = .ok (.iload 4, 2) := by decide +kernel
theorem dX1_writeDown_33 : decode cX1_writeDown 33 = .ok (.iload_n 2, 1) := by decide +kernel
theorem dX1_writeDown_34 : decode cX1_writeDown 34 = .ok (.invokevirtual 32, 3) := by decide +kernel
theorem dX1_writeDown_37 : decode cX1_writeDown 37 = .ok (.istore 5, 2) := by decide +kernel
theorem dX1_writeDown_39 : decode cX1_writeDown 39 = .ok (.iload 5, 2) := by decide +kernel
theorem dX1_writeDown_41 : decode cX1_writeDown 41 = .ok (.ifCond .ne 9, 3) := by decide +kernel
theorem dX1_writeDown_44 : decode cX1_writeDown 44 = .ok (.aload_n 0, 1) := by decide +kernel
theorem dX1_writeDown_45 : decode cX1_writeDown 45 = .ok (.iload 4, 2) := by decide +kernel
theorem dX1_writeDown_47 : decode cX1_writeDown 47 = .ok (.invokevirtual 36, 3) := by decide +kernel
theorem dX1_writeDown_50 : decode cX1_writeDown 50 = .ok (.iload 5, 2) := by decide +kernel
theorem dX1_writeDown_52 : decode cX1_writeDown 52 = .ok (.istore_n 2, 1) := by decide +kernel
theorem dX1_writeDown_53 : decode cX1_writeDown 53 = .ok (.iinc 3 1, 3) := by decide +kernel
theorem dX1_writeDown_56 : decode cX1_writeDown 56 = .ok (.goto (-47), 3) := by decide +kernel
theorem dX1_writeDown_59 : decode cX1_writeDown 59 = .ok (.iload_n 2, 1) := by decide +kernel
theorem dX1_writeDown_60 : decode cX1_writeDown 60 = .ok (.ifCond .le 16, 3) := by decide +kernel
theorem dX1_writeDown_63 : decode cX1_writeDown 63 = .ok (.aload_n 0, 1) := by decide +kernel
theorem dX1_writeDown_64 : decode cX1_writeDown 64 = .ok (.sipush 257, 3) := by decide +kernel
theorem dX1_writeDown_67 : decode cX1_writeDown 67 = .ok (.iload_n 2, 1) := by decide +kernel
theorem dX1_writeDown_68 : decode cX1_writeDown 68 = .ok (.imul, 1) := by decide +kernel
theorem dX1_writeDown_69 : decode cX1_writeDown 69 = .ok (.sipush 256, 3) := by decide +kernel
theorem dX1_writeDown_72 : decode cX1_writeDown 72 = .ok (.iadd, 1) := by decide +kernel
theorem dX1_writeDown_73 : decode cX1_writeDown 73 = .ok (.invokevirtual 36, 3) := by decide +kernel
theorem dX1_writeDown_76 : decode cX1_writeDown 76 = .ok (.return_, 1) := by decide +kernel
theorem dX1_addWord_0 : decode cX1_addWord 0 = .ok (.aload_n 0, 1) := by decide +kernel
theorem dX1_addWord_1 : decode cX1_addWord 1 = .ok (.getfield 9, 3) := by decide +kernel
theorem dX1_addWord_4 : decode cX1_addWord 4 = .ok (.aload_n 0, 1) := by decide +kernel
theorem dX1_addWord_5 : decode cX1_addWord 5 = .ok (.getfield 18, 3) := by decide +kernel
theorem dX1_addWord_8 : decode cX1_addWord 8 = .ok (.iload_n 1, 1) := by decide +kernel
theorem dX1_addWord_9 : decode cX1_addWord 9 = .ok (.iastore, 1) := by decide +kernel
theorem dX1_addWord_10 : decode cX1_addWord 10 = .ok (.aload_n 0, 1) := by decide +kernel
theorem dX1_addWord_11 : decode cX1_addWord 11 = .ok (.dup, 1) := by decide +kernel
theorem dX1_addWord_12 : decode cX1_addWord 12 = .ok (.getfield 18, 3) := by decide +kernel
theorem dX1_addWord_15 : decode cX1_addWord 15 = .ok (.iconst 1, 1) := by decide +kernel
theorem dX1_addWord_16 : decode cX1_addWord 16 = .ok (.iadd, 1) := by decide +kernel
theorem dX1_addWord_17 : decode cX1_addWord 17 = .ok (.putfield 18, 3) := by decide +kernel
theorem dX1_addWord_20 : decode cX1_addWord 20 = .ok (.return_, 1) := by decide +kernel
theorem dX1_numberOf_0 : decode cX1_numberOf 0 = .ok (.iload_n 2, 1) := by decide +kernel
theorem dX1_numberOf_1 : decode cX1_numberOf 1 = .ok (.istore_n 3, 1) := by decide +kernel
theorem dX1_numberOf_2 : decode cX1_numberOf 2 = .ok (.iload_n 3, 1) := by decide +kernel
theorem dX1_numberOf_3 : decode cX1_numberOf 3 = .ok (.aload_n 0, 1) := by decide +kernel
theorem dX1_numberOf_4 : decode cX1_numberOf 4 = .ok (.getfield 18, 3) := by decide +kernel
theorem dX1_numberOf_7 : decode cX1_numberOf 7 = .ok (.if_icmp .ge 23, 3) := by decide +kernel
theorem dX1_numberOf_10 : decode cX1_numberOf 10 = .ok (.aload_n 0, 1) := by decide +kernel
theorem dX1_numberOf_11 : decode cX1_numberOf 11 = .ok (.getfield 9, 3) := by decide +kernel
theorem dX1_numberOf_14 : decode cX1_numberOf 14 = .ok (.iload_n 3, 1) := by decide +kernel
theorem dX1_numberOf_15 : decode cX1_numberOf 15 = .ok (.iaload, 1) := by decide +kernel
theorem dX1_numberOf_16 : decode cX1_numberOf 16 = .ok (.iload_n 1, 1) := by decide +kernel
theorem dX1_numberOf_17 : decode cX1_numberOf 17 = .ok (.if_icmp .ne 7, 3) := by decide +kernel
theorem dX1_numberOf_20 : decode cX1_numberOf 20 = .ok (.iload_n 3, 1) := by decide +kernel
theorem dX1_numberOf_21 : decode cX1_numberOf 21 = .ok (.iconst 1, 1) := by decide +kernel
theorem dX1_numberOf_22 : decode cX1_numberOf 22 = .ok (.iadd, 1) := by decide +kernel
theorem dX1_numberOf_23 : decode cX1_numberOf 23 = .ok (.ireturn, 1) := by decide +kernel
theorem dX1_numberOf_24 : decode cX1_numberOf 24 = .ok (.iinc 3 1, 3) := by decide +kernel
theorem dX1_numberOf_27 : decode cX1_numberOf 27 = .ok (.goto (-25), 3) := by decide +kernel
theorem dX1_numberOf_30 : decode cX1_numberOf 30 = .ok (.iconst 0, 1) := by decide +kernel
theorem dX1_numberOf_31 : decode cX1_numberOf 31 = .ok (.ireturn, 1) := by decide +kernel
set_option maxRecDepth 20000 in
theorem ggX1_readInto_X2_empty : GoodIn wsX1_readInto wsX2_empty := goodIn_r _ [8, 9, 43, 44] (by decide +kernel) (by decide +kernel)
set_option maxRecDepth 20000 in
theorem gX1_readInto_X2_empty : GoodIn wsX1_readInto (wsV RX1 40 RX2 yX2_empty wsX2_empty) := goodIn_app (goodIn_of _ (by decide +kernel)) ggX1_readInto_X2_empty
set_option maxRecDepth 20000 in
theorem ggX1_readInto_X1_isPhrase : GoodIn wsX1_readInto wsX1_isPhrase := goodIn_r _ [14, 3, 2, 40, 41, 42] (by decide +kernel) (by decide +kernel)
set_option maxRecDepth 20000 in
theorem gX1_readInto_X1_isPhrase : GoodIn wsX1_readInto (wsV RX1 43 RX1 yX1_isPhrase wsX1_isPhrase) := goodIn_app (goodIn_of _ (by decide +kernel)) ggX1_readInto_X1_isPhrase
set_option maxRecDepth 20000 in
theorem ggX1_readInto_X1_lengthOf : GoodIn wsX1_readInto wsX1_lengthOf := goodIn_r _ [18, 1, 40, 41, 42] (by decide +kernel) (by decide +kernel)
set_option maxRecDepth 20000 in
theorem gX1_readInto_X1_lengthOf : GoodIn wsX1_readInto (wsV RX1 47 RX1 yX1_lengthOf wsX1_lengthOf) := goodIn_app (goodIn_of _ (by decide +kernel)) ggX1_readInto_X1_lengthOf
set_option maxRecDepth 20000 in
theorem ggX1_readInto_X2_size : GoodIn wsX1_readInto wsX2_size := goodIn_r _ [22, 9, 43, 44] (by decide +kernel) (by decide +kernel)
set_option maxRecDepth 20000 in
theorem gX1_readInto_X2_size : GoodIn wsX1_readInto (wsV RX1 22 RX2 yX2_size wsX2_size) := goodIn_app (goodIn_of _ (by decide +kernel)) ggX1_readInto_X2_size
set_option maxRecDepth 20000 in
theorem ggX1_readInto_X1_addPhrase : GoodIn wsX1_readInto wsX1_addPhrase := goodIn_r _ [26, 1, 27, 28, 29, 7, 30, 31, 9, 32, 33, 34, 35, 36, 37, 38, 39, 40, 41, 42, 43, 44] (by decide +kernel) (by decide +kernel)
set_option maxRecDepth 20000 in
theorem gX1_readInto_X1_addPhrase : GoodIn wsX1_readInto (wsV RX1 50 RX1 yX1_addPhrase wsX1_addPhrase) := goodIn_app (goodIn_of _ (by decide +kernel)) ggX1_readInto_X1_addPhrase
theorem dX1_readInto_0 : decode cX1_readInto 0 = .ok (.aload_n 1, 1) := by decide +kernel
theorem dX1_readInto_1 : decode cX1_readInto 1 = .ok (.invokevirtual 40, 3) := by decide +kernel
theorem dX1_readInto_4 : decode cX1_readInto 4 = .ok (.aload_n 0, 1) := by decide +kernel
theorem dX1_readInto_5 : decode cX1_readInto 5 = .ok (.getfield 15, 3) := by decide +kernel
theorem dX1_readInto_8 : decode cX1_readInto 8 = .ok (.iconst 0, 1) := by decide +kernel
theorem dX1_readInto_9 : decode cX1_readInto 9 = .ok (.iconst 0, 1) := by decide +kernel
theorem dX1_readInto_10 : decode cX1_readInto 10 = .ok (.iastore, 1) := by decide +kernel
theorem dX1_readInto_11 : decode cX1_readInto 11 = .ok (.iconst 0, 1) := by decide +kernel
theorem dX1_readInto_12 : decode cX1_readInto 12 = .ok (.istore_n 2, 1) := by decide +kernel
theorem dX1_readInto_13 : decode cX1_readInto 13 = .ok (.iload_n 2, 1) := by decide +kernel
theorem dX1_readInto_14 : decode cX1_readInto 14 = .ok (.aload_n 0, 1) := by decide +kernel
theorem dX1_readInto_15 : decode cX1_readInto 15 = .ok (.getfield 18, 3) := by decide +kernel
theorem dX1_readInto_18 : decode cX1_readInto 18 = .ok (.if_icmp .ge 63, 3) := by decide +kernel
theorem dX1_readInto_21 : decode cX1_readInto 21 = .ok (.aload_n 0, 1) := by decide +kernel
theorem dX1_readInto_22 : decode cX1_readInto 22 = .ok (.iload_n 2, 1) := by decide +kernel
theorem dX1_readInto_23 : decode cX1_readInto 23 = .ok (.invokevirtual 43, 3) := by decide +kernel
theorem dX1_readInto_26 : decode cX1_readInto 26 = .ok (.ifCond .eq 24, 3) := by decide +kernel
theorem dX1_readInto_29 : decode cX1_readInto 29 = .ok (.aload_n 0, 1) := by decide +kernel
theorem dX1_readInto_30 : decode cX1_readInto 30 = .ok (.aload_n 0, 1) := by decide +kernel
theorem dX1_readInto_31 : decode cX1_readInto 31 = .ok (.getfield 9, 3) := by decide +kernel
theorem dX1_readInto_34 : decode cX1_readInto 34 = .ok (.iload_n 2, 1) := by decide +kernel
theorem dX1_readInto_35 : decode cX1_readInto 35 = .ok (.iaload, 1) := by decide +kernel
theorem dX1_readInto_36 : decode cX1_readInto 36 = .ok (.invokevirtual 47, 3) := by decide +kernel
theorem dX1_readInto_39 : decode cX1_readInto 39 = .ok (.sipush 240, 3) := by decide +kernel
theorem dX1_readInto_42 : decode cX1_readInto 42 = .ok (.aload_n 1, 1) := by decide +kernel
theorem dX1_readInto_43 : decode cX1_readInto 43 = .ok (.invokevirtual 22, 3) := by decide +kernel
theorem dX1_readInto_46 : decode cX1_readInto 46 = .ok (.isub, 1) := by decide +kernel
theorem dX1_readInto_47 : decode cX1_readInto 47 = .ok (.if_icmp .le 5, 3) := by decide +kernel
theorem dX1_readInto_50 : decode cX1_readInto 50 = .ok (.iload_n 2, 1) := by decide +kernel
theorem dX1_readInto_51 : decode cX1_readInto 51 = .ok (.ireturn, 1) := by decide +kernel
theorem dX1_readInto_52 : decode cX1_readInto 52 = .ok (.aload_n 0, 1) := by decide +kernel
theorem dX1_readInto_53 : decode cX1_readInto 53 = .ok (.aload_n 0, 1) := by decide +kernel
theorem dX1_readInto_54 : decode cX1_readInto 54 = .ok (.getfield 9, 3) := by decide +kernel
theorem dX1_readInto_57 : decode cX1_readInto 57 = .ok (.iload_n 2, 1) := by decide +kernel
theorem dX1_readInto_58 : decode cX1_readInto 58 = .ok (.iaload, 1) := by decide +kernel
theorem dX1_readInto_59 : decode cX1_readInto 59 = .ok (.aload_n 1, 1) := by decide +kernel
theorem dX1_readInto_60 : decode cX1_readInto 60 = .ok (.invokevirtual 50, 3) := by decide +kernel
theorem dX1_readInto_63 : decode cX1_readInto 63 = .ok (.aload_n 0, 1) := by decide +kernel
theorem dX1_readInto_64 : decode cX1_readInto 64 = .ok (.getfield 15, 3) := by decide +kernel
theorem dX1_readInto_67 : decode cX1_readInto 67 = .ok (.iload_n 2, 1) := by decide +kernel
theorem dX1_readInto_68 : decode cX1_readInto 68 = .ok (.iconst 1, 1) := by decide +kernel
theorem dX1_readInto_69 : decode cX1_readInto 69 = .ok (.iadd, 1) := by decide +kernel
theorem dX1_readInto_70 : decode cX1_readInto 70 = .ok (.aload_n 1, 1) := by decide +kernel
theorem dX1_readInto_71 : decode cX1_readInto 71 = .ok (.invokevirtual 22, 3) := by decide +kernel
theorem dX1_readInto_74 : decode cX1_readInto 74 = .ok (.iastore, 1) := by decide +kernel
theorem dX1_readInto_75 : decode cX1_readInto 75 = .ok (.iinc 2 1, 3) := by decide +kernel
theorem dX1_readInto_78 : decode cX1_readInto 78 = .ok (.goto (-65), 3) := by decide +kernel
theorem dX1_readInto_81 : decode cX1_readInto 81 = .ok (.iconst (-1), 1) := by decide +kernel
theorem dX1_readInto_82 : decode cX1_readInto 82 = .ok (.ireturn, 1) := by decide +kernel
theorem dX1_isPhrase_0 : decode cX1_isPhrase 0 = .ok (.aload_n 0, 1) := by decide +kernel
theorem dX1_isPhrase_1 : decode cX1_isPhrase 1 = .ok (.getfield 9, 3) := by decide +kernel
theorem dX1_isPhrase_4 : decode cX1_isPhrase 4 = .ok (.iload_n 1, 1) := by decide +kernel
theorem dX1_isPhrase_5 : decode cX1_isPhrase 5 = .ok (.iaload, 1) := by decide +kernel
theorem dX1_isPhrase_6 : decode cX1_isPhrase 6 = .ok (.istore_n 2, 1) := by decide +kernel
theorem dX1_isPhrase_7 : decode cX1_isPhrase 7 = .ok (.iload_n 2, 1) := by decide +kernel
theorem dX1_isPhrase_8 : decode cX1_isPhrase 8 = .ok (.ifCond .lt 12, 3) := by decide +kernel
theorem dX1_isPhrase_11 : decode cX1_isPhrase 11 = .ok (.iload_n 2, 1) := by decide +kernel
theorem dX1_isPhrase_12 : decode cX1_isPhrase 12 = .ok (.sipush 257, 3) := by decide +kernel
theorem dX1_isPhrase_15 : decode cX1_isPhrase 15 = .ok (.idiv, 1) := by decide +kernel
theorem dX1_isPhrase_16 : decode cX1_isPhrase 16 = .ok (.iload_n 1, 1) := by decide +kernel
theorem dX1_isPhrase_17 : decode cX1_isPhrase 17 = .ok (.if_icmp .le 5, 3) := by decide +kernel
theorem dX1_isPhrase_20 : decode cX1_isPhrase 20 = .ok (.iconst 0, 1) := by decide +kernel
theorem dX1_isPhrase_21 : decode cX1_isPhrase 21 = .ok (.ireturn, 1) := by decide +kernel
theorem dX1_isPhrase_22 : decode cX1_isPhrase 22 = .ok (.iload_n 2, 1) := by decide +kernel
theorem dX1_isPhrase_23 : decode cX1_isPhrase 23 = .ok (.sipush 257, 3) := by decide +kernel
theorem dX1_isPhrase_26 : decode cX1_isPhrase 26 = .ok (.irem, 1) := by decide +kernel
theorem dX1_isPhrase_27 : decode cX1_isPhrase 27 = .ok (.sipush 256, 3) := by decide +kernel
theorem dX1_isPhrase_30 : decode cX1_isPhrase 30 = .ok (.if_icmp .eq 5, 3) := by decide +kernel
theorem dX1_isPhrase_33 : decode cX1_isPhrase 33 = .ok (.iconst 1, 1) := by decide +kernel
theorem dX1_isPhrase_34 : decode cX1_isPhrase 34 = .ok (.ireturn, 1) := by decide +kernel
theorem dX1_isPhrase_35 : decode cX1_isPhrase 35 = .ok (.iload_n 1, 1) := by decide +kernel
theorem dX1_isPhrase_36 : decode cX1_isPhrase 36 = .ok (.aload_n 0, 1) := by decide +kernel
theorem dX1_isPhrase_37 : decode cX1_isPhrase 37 = .ok (.getfield 18, 3) := by decide +kernel
theorem dX1_isPhrase_40 : decode cX1_isPhrase 40 = .ok (.iconst 1, 1) := by decide +kernel
theorem dX1_isPhrase_41 : decode cX1_isPhrase 41 = .ok (.isub, 1) := by decide +kernel
theorem dX1_isPhrase_42 : decode cX1_isPhrase 42 = .ok (.if_icmp .ne 15, 3) := by decide +kernel
theorem dX1_isPhrase_45 : decode cX1_isPhrase 45 = .ok (.iload_n 2, 1) := by decide +kernel
theorem dX1_isPhrase_46 : decode cX1_isPhrase 46 = .ok (.sipush 257, 3) := by decide +kernel
theorem dX1_isPhrase_49 : decode cX1_isPhrase 49 = .ok (.idiv, 1) := by decide +kernel
theorem dX1_isPhrase_50 : decode cX1_isPhrase 50 = .ok (.ifCond .le 7, 3) := by decide +kernel
theorem dX1_isPhrase_53 : decode cX1_isPhrase 53 = .ok (.iconst 1, 1) := by decide +kernel
theorem dX1_isPhrase_54 : decode cX1_isPhrase 54 = .ok (.goto 4, 3) := by decide +kernel
theorem dX1_isPhrase_57 : decode cX1_isPhrase 57 = .ok (.iconst 0, 1) := by decide +kernel
theorem dX1_isPhrase_58 : decode cX1_isPhrase 58 = .ok (.ireturn, 1) := by decide +kernel
theorem dX1_lengthOf_0 : decode cX1_lengthOf 0 = .ok (.iload_n 1, 1) := by decide +kernel
theorem dX1_lengthOf_1 : decode cX1_lengthOf 1 = .ok (.sipush 257, 3) := by decide +kernel
theorem dX1_lengthOf_4 : decode cX1_lengthOf 4 = .ok (.idiv, 1) := by decide +kernel
theorem dX1_lengthOf_5 : decode cX1_lengthOf 5 = .ok (.istore_n 2, 1) := by decide +kernel
theorem dX1_lengthOf_6 : decode cX1_lengthOf 6 = .ok (.iload_n 2, 1) := by decide +kernel
theorem dX1_lengthOf_7 : decode cX1_lengthOf 7 = .ok (.ifCond .ne 7, 3) := by decide +kernel
theorem dX1_lengthOf_10 : decode cX1_lengthOf 10 = .ok (.iconst 0, 1) := by decide +kernel
theorem dX1_lengthOf_11 : decode cX1_lengthOf 11 = .ok (.goto 18, 3) := by decide +kernel
theorem dX1_lengthOf_14 : decode cX1_lengthOf 14 = .ok (.aload_n 0, 1) := by decide +kernel
theorem dX1_lengthOf_15 : decode cX1_lengthOf 15 = .ok (.getfield 15, 3) := by decide +kernel
theorem dX1_lengthOf_18 : decode cX1_lengthOf 18 = .ok (.iload_n 2, 1) := by decide +kernel
theorem dX1_lengthOf_19 : decode cX1_lengthOf 19 = .ok (.iaload, 1) := by decide +kernel
theorem dX1_lengthOf_20 : decode cX1_lengthOf 20 = .ok (.aload_n 0, 1) := by decide +kernel
theorem dX1_lengthOf_21 : decode cX1_lengthOf 21 = .ok (.getfield 15, 3) := by decide +kernel
theorem dX1_lengthOf_24 : decode cX1_lengthOf 24 = .ok (.iload_n 2, 1) := by decide +kernel
theorem dX1_lengthOf_25 : decode cX1_lengthOf 25 = .ok (.iconst 1, 1) := by decide +kernel
theorem dX1_lengthOf_26 : decode cX1_lengthOf 26 = .ok (.isub, 1) := by decide +kernel
theorem dX1_lengthOf_27 : decode cX1_lengthOf 27 = .ok (.iaload, 1) := by decide +kernel
theorem dX1_lengthOf_28 : decode cX1_lengthOf 28 = .ok (.isub, 1) := by decide +kernel
theorem dX1_lengthOf_29 : decode cX1_lengthOf 29 = .ok (.istore_n 3, 1) := by decide +kernel
theorem dX1_lengthOf_30 : decode cX1_lengthOf 30 = .ok (.iload_n 1, 1) := by decide +kernel
theorem dX1_lengthOf_31 : decode cX1_lengthOf 31 = .ok (.sipush 257, 3) := by decide +kernel
theorem dX1_lengthOf_34 : decode cX1_lengthOf 34 = .ok (.irem, 1) := by decide +kernel
theorem dX1_lengthOf_35 : decode cX1_lengthOf 35 = .ok (.sipush 256, 3) := by decide +kernel
theorem dX1_lengthOf_38 : decode cX1_lengthOf 38 = .ok (.if_icmp .ne 7, 3) := by decide +kernel
theorem dX1_lengthOf_41 : decode cX1_lengthOf 41 = .ok (.iload_n 3, 1) := by decide +kernel
theorem dX1_lengthOf_42 : decode cX1_lengthOf 42 = .ok (.goto 6, 3) := by decide +kernel
theorem dX1_lengthOf_45 : decode cX1_lengthOf 45 = .ok (.iload_n 3, 1) := by decide +kernel
theorem dX1_lengthOf_46 : decode cX1_lengthOf 46 = .ok (.iconst 1, 1) := by decide +kernel
theorem dX1_lengthOf_47 : decode cX1_lengthOf 47 = .ok (.iadd, 1) := by decide +kernel
theorem dX1_lengthOf_48 : decode cX1_lengthOf 48 = .ok (.ireturn, 1) := by decide +kernel
set_option maxRecDepth 20000 in
theorem ggX1_addPhrase_X2_addPart : GoodIn wsX1_addPhrase wsX2_addPart := goodIn_r _ [6, 7, 8, 9, 10, 11, 12, 20, 21] (by decide +kernel) (by decide +kernel)
set_option maxRecDepth 20000 in
theorem gX1_addPhrase_X2_addPart : GoodIn wsX1_addPhrase (wsV RX1 54 RX2 yX2_addPart wsX2_addPart) := goodIn_app (goodIn_of _ (by decide +kernel)) ggX1_addPhrase_X2_addPart
set_option maxRecDepth 20000 in
theorem ggX1_addPhrase_X2_add : GoodIn wsX1_addPhrase wsX2_add := goodIn_r _ [16, 7, 8, 20, 21] (by decide +kernel) (by decide +kernel)
set_option maxRecDepth 20000 in
theorem gX1_addPhrase_X2_add : GoodIn wsX1_addPhrase (wsV RX1 58 RX2 yX2_add wsX2_add) := goodIn_app (goodIn_of _ (by decide +kernel)) ggX1_addPhrase_X2_add
theorem dX1_addPhrase_0 : decode cX1_addPhrase 0 = .ok (.iload_n 1, 1) := by decide +kernel
theorem dX1_addPhrase_1 : decode cX1_addPhrase 1 = .ok (.sipush 257, 3) := by decide +kernel
theorem dX1_addPhrase_4 : decode cX1_addPhrase 4 = .ok (.idiv, 1) := by decide +kernel
theorem dX1_addPhrase_5 : decode cX1_addPhrase 5 = .ok (.istore_n 3, 1) := by decide +kernel
theorem dX1_addPhrase_6 : decode cX1_addPhrase 6 = .ok (.iload_n 3, 1) := by decide +kernel
theorem dX1_addPhrase_7 : decode cX1_addPhrase 7 = .ok (.ifCond .le 22, 3) := by decide +kernel
theorem dX1_addPhrase_10 : decode cX1_addPhrase 10 = .ok (.aload_n 2, 1) := by decide +kernel
theorem dX1_addPhrase_11 : decode cX1_addPhrase 11 = .ok (.aload_n 2, 1) := by decide +kernel
theorem dX1_addPhrase_12 : decode cX1_addPhrase 12 = .ok (.aload_n 0, 1) := by decide +kernel
theorem dX1_addPhrase_13 : decode cX1_addPhrase 13 = .ok (.getfield 15, 3) := by decide +kernel
theorem dX1_addPhrase_16 : decode cX1_addPhrase 16 = .ok (.iload_n 3, 1) := by decide +kernel
theorem dX1_addPhrase_17 : decode cX1_addPhrase 17 = .ok (.iconst 1, 1) := by decide +kernel
theorem dX1_addPhrase_18 : decode cX1_addPhrase 18 = .ok (.isub, 1) := by decide +kernel
theorem dX1_addPhrase_19 : decode cX1_addPhrase 19 = .ok (.iaload, 1) := by decide +kernel
theorem dX1_addPhrase_20 : decode cX1_addPhrase 20 = .ok (.aload_n 0, 1) := by decide +kernel
theorem dX1_addPhrase_21 : decode cX1_addPhrase 21 = .ok (.getfield 15, 3) := by decide +kernel
theorem dX1_addPhrase_24 : decode cX1_addPhrase 24 = .ok (.iload_n 3, 1) := by decide +kernel
theorem dX1_addPhrase_25 : decode cX1_addPhrase 25 = .ok (.iaload, 1) := by decide +kernel
theorem dX1_addPhrase_26 : decode cX1_addPhrase 26 = .ok (.invokevirtual 54, 3) := by decide +kernel
theorem dX1_addPhrase_29 : decode cX1_addPhrase 29 = .ok (.iload_n 1, 1) := by decide +kernel
theorem dX1_addPhrase_30 : decode cX1_addPhrase 30 = .ok (.sipush 257, 3) := by decide +kernel
theorem dX1_addPhrase_33 : decode cX1_addPhrase 33 = .ok (.irem, 1) := by decide +kernel
theorem dX1_addPhrase_34 : decode cX1_addPhrase 34 = .ok (.sipush 256, 3) := by decide +kernel
theorem dX1_addPhrase_37 : decode cX1_addPhrase 37 = .ok (.if_icmp .eq 12, 3) := by decide +kernel
theorem dX1_addPhrase_40 : decode cX1_addPhrase 40 = .ok (.aload_n 2, 1) := by decide +kernel
theorem dX1_addPhrase_41 : decode cX1_addPhrase 41 = .ok (.iload_n 1, 1) := by decide +kernel
theorem dX1_addPhrase_42 : decode cX1_addPhrase 42 = .ok (.sipush 257, 3) := by decide +kernel
theorem dX1_addPhrase_45 : decode cX1_addPhrase 45 = .ok (.irem, 1) := by decide +kernel
theorem dX1_addPhrase_46 : decode cX1_addPhrase 46 = .ok (.invokevirtual 58, 3) := by decide +kernel
theorem dX1_addPhrase_49 : decode cX1_addPhrase 49 = .ok (.return_, 1) := by decide +kernel
theorem dX2_init_0 : decode cX2_init 0 = .ok (.aload_n 0, 1) := by decide +kernel
theorem dX2_init_1 : decode cX2_init 1 = .ok (.invokespecial 1, 3) := by decide +kernel
theorem dX2_init_4 : decode cX2_init 4 = .ok (.aload_n 0, 1) := by decide +kernel
theorem dX2_init_5 : decode cX2_init 5 = .ok (.iload_n 1, 1) := by decide +kernel
theorem dX2_init_6 : decode cX2_init 6 = .ok (.newarray .int, 2) := by decide +kernel
theorem dX2_init_8 : decode cX2_init 8 = .ok (.putfield 7, 3) := by decide +kernel
theorem dX2_init_11 : decode cX2_init 11 = .ok (.aload_n 0, 1) := by decide +kernel
theorem dX2_init_12 : decode cX2_init 12 = .ok (.iconst 0, 1) := by decide +kernel
theorem dX2_init_13 : decode cX2_init 13 = .ok (.putfield 13, 3) := by decide +kernel
theorem dX2_init_16 : decode cX2_init 16 = .ok (.return_, 1) := by decide +kernel
theorem dX2_size_0 : decode cX2_size 0 = .ok (.aload_n 0, 1) := by decide +kernel
theorem dX2_size_1 : decode cX2_size 1 = .ok (.getfield 13, 3) := by decide +kernel
theorem dX2_size_4 : decode cX2_size 4 = .ok (.ireturn, 1) := by decide +kernel
theorem dX2_get_0 : decode cX2_get 0 = .ok (.aload_n 0, 1) := by decide +kernel
theorem dX2_get_1 : decode cX2_get 1 = .ok (.getfield 7, 3) := by decide +kernel
theorem dX2_get_4 : decode cX2_get 4 = .ok (.iload_n 1, 1) := by decide +kernel
theorem dX2_get_5 : decode cX2_get 5 = .ok (.iaload, 1) := by decide +kernel
theorem dX2_get_6 : decode cX2_get 6 = .ok (.ireturn, 1) := by decide +kernel
theorem dX2_empty_0 : decode cX2_empty 0 = .ok (.aload_n 0, 1) := by decide +kernel
theorem dX2_empty_1 : decode cX2_empty 1 = .ok (.iconst 0, 1) := by decide +kernel
theorem dX2_empty_2 : decode cX2_empty 2 = .ok (.putfield 13, 3) := by decide +kernel
theorem dX2_empty_5 : decode cX2_empty 5 = .ok (.return_, 1) := by decide +kernel
theorem dX2_add_0 : decode cX2_add 0 = .ok (.aload_n 0, 1) := by decide +kernel
theorem dX2_add_1 : decode cX2_add 1 = .ok (.getfield 7, 3) := by decide +kernel
theorem dX2_add_4 : decode cX2_add 4 = .ok (.aload_n 0, 1) := by decide +kernel
theorem dX2_add_5 : decode cX2_add 5 = .ok (.getfield 13, 3) := by decide +kernel
theorem dX2_add_8 : decode cX2_add 8 = .ok (.iload_n 1, 1) := by decide +kernel
theorem dX2_add_9 : decode cX2_add 9 = .ok (.iastore, 1) := by decide +kernel
theorem dX2_add_10 : decode cX2_add 10 = .ok (.aload_n 0, 1) := by decide +kernel
theorem dX2_add_11 : decode cX2_add 11 = .ok (.dup, 1) := by decide +kernel
theorem dX2_add_12 : decode cX2_add 12 = .ok (.getfield 13, 3) := by decide +kernel
theorem dX2_add_15 : decode cX2_add 15 = .ok (.iconst 1, 1) := by decide +kernel
theorem dX2_add_16 : decode cX2_add 16 = .ok (.iadd, 1) := by decide +kernel
theorem dX2_add_17 : decode cX2_add 17 = .ok (.putfield 13, 3) := by decide +kernel
theorem dX2_add_20 : decode cX2_add 20 = .ok (.return_, 1) := by decide +kernel
theorem dX2_addPart_0 : decode cX2_addPart 0 = .ok (.aload_n 1, 1) := by decide +kernel
theorem dX2_addPart_1 : decode cX2_addPart 1 = .ok (.getfield 7, 3) := by decide +kernel
theorem dX2_addPart_4 : decode cX2_addPart 4 = .ok (.iload_n 2, 1) := by decide +kernel
theorem dX2_addPart_5 : decode cX2_addPart 5 = .ok (.aload_n 0, 1) := by decide +kernel
theorem dX2_addPart_6 : decode cX2_addPart 6 = .ok (.getfield 7, 3) := by decide +kernel
theorem dX2_addPart_9 : decode cX2_addPart 9 = .ok (.aload_n 0, 1) := by decide +kernel
theorem dX2_addPart_10 : decode cX2_addPart 10 = .ok (.getfield 13, 3) := by decide +kernel
theorem dX2_addPart_13 : decode cX2_addPart 13 = .ok (.iload_n 3, 1) := by decide +kernel
theorem dX2_addPart_14 : decode cX2_addPart 14 = .ok (.iload_n 2, 1) := by decide +kernel
theorem dX2_addPart_15 : decode cX2_addPart 15 = .ok (.isub, 1) := by decide +kernel
theorem dX2_addPart_16 : decode cX2_addPart 16 = .ok (.invokestatic 17, 3) := by decide +kernel
theorem dX2_addPart_19 : decode cX2_addPart 19 = .ok (.aload_n 0, 1) := by decide +kernel
theorem dX2_addPart_20 : decode cX2_addPart 20 = .ok (.dup, 1) := by decide +kernel
theorem dX2_addPart_21 : decode cX2_addPart 21 = .ok (.getfield 13, 3) := by decide +kernel
theorem dX2_addPart_24 : decode cX2_addPart 24 = .ok (.iload_n 3, 1) := by decide +kernel
theorem dX2_addPart_25 : decode cX2_addPart 25 = .ok (.iload_n 2, 1) := by decide +kernel
theorem dX2_addPart_26 : decode cX2_addPart 26 = .ok (.isub, 1) := by decide +kernel
theorem dX2_addPart_27 : decode cX2_addPart 27 = .ok (.iadd, 1) := by decide +kernel
theorem dX2_addPart_28 : decode cX2_addPart 28 = .ok (.putfield 13, 3) := by decide +kernel
theorem dX2_addPart_31 : decode cX2_addPart 31 = .ok (.return_, 1) := by decide +kernel
theorem dX2_hasAt_0 : decode cX2_hasAt 0 = .ok (.aload_n 2, 1) := by decide +kernel
theorem dX2_hasAt_1 : decode cX2_hasAt 1 = .ok (.getfield 13, 3) := by decide +kernel
theorem dX2_hasAt_4 : decode cX2_hasAt 4 = .ok (.aload_n 0, 1) := by decide +kernel
theorem dX2_hasAt_5 : decode cX2_hasAt 5 = .ok (.getfield 13, 3) := by decide +kernel
theorem dX2_hasAt_8 : decode cX2_hasAt 8 = .ok (.iload_n 1, 1) := by decide +kernel
theorem dX2_hasAt_9 : decode cX2_hasAt 9 = .ok (.isub, 1) := by decide +kernel
theorem dX2_hasAt_10 : decode cX2_hasAt 10 = .ok (.if_icmp .le 5, 3) := by decide +kernel
theorem dX2_hasAt_13 : decode cX2_hasAt 13 = .ok (.iconst 0, 1) := by decide +kernel
theorem dX2_hasAt_14 : decode cX2_hasAt 14 = .ok (.ireturn, 1) := by decide +kernel
theorem dX2_hasAt_15 : decode cX2_hasAt 15 = .ok (.iconst 0, 1) := by decide +kernel
theorem dX2_hasAt_16 : decode cX2_hasAt 16 = .ok (.istore_n 3, 1) := by decide +kernel
theorem dX2_hasAt_17 : decode cX2_hasAt 17 = .ok (.iload_n 3, 1) := by decide +kernel
theorem dX2_hasAt_18 : decode cX2_hasAt 18 = .ok (.aload_n 2, 1) := by decide +kernel
theorem dX2_hasAt_19 : decode cX2_hasAt 19 = .ok (.getfield 13, 3) := by decide +kernel
theorem dX2_hasAt_22 : decode cX2_hasAt 22 = .ok (.if_icmp .ge 28, 3) := by decide +kernel
theorem dX2_hasAt_25 : decode cX2_hasAt 25 = .ok (.aload_n 0, 1) := by decide +kernel
theorem dX2_hasAt_26 : decode cX2_hasAt 26 = .ok (.getfield 7, 3) := by decide +kernel
theorem dX2_hasAt_29 : decode cX2_hasAt 29 = .ok (.iload_n 1, 1) := by decide +kernel
theorem dX2_hasAt_30 : decode cX2_hasAt 30 = .ok (.iload_n 3, 1) := by decide +kernel
theorem dX2_hasAt_31 : decode cX2_hasAt 31 = .ok (.iadd, 1) := by decide +kernel
theorem dX2_hasAt_32 : decode cX2_hasAt 32 = .ok (.iaload, 1) := by decide +kernel
theorem dX2_hasAt_33 : decode cX2_hasAt 33 = .ok (.aload_n 2, 1) := by decide +kernel
theorem dX2_hasAt_34 : decode cX2_hasAt 34 = .ok (.getfield 7, 3) := by decide +kernel
theorem dX2_hasAt_37 : decode cX2_hasAt 37 = .ok (.iload_n 3, 1) := by decide +kernel
theorem dX2_hasAt_38 : decode cX2_hasAt 38 = .ok (.iaload, 1) := by decide +kernel
theorem dX2_hasAt_39 : decode cX2_hasAt 39 = .ok (.if_icmp .eq 5, 3) := by decide +kernel
theorem dX2_hasAt_42 : decode cX2_hasAt 42 = .ok (.iconst 0, 1) := by decide +kernel
theorem dX2_hasAt_43 : decode cX2_hasAt 43 = .ok (.ireturn, 1) := by decide +kernel
theorem dX2_hasAt_44 : decode cX2_hasAt 44 = .ok (.iinc 3 1, 3) := by decide +kernel
theorem dX2_hasAt_47 : decode cX2_hasAt 47 = .ok (.goto (-30), 3) := by decide +kernel
theorem dX2_hasAt_50 : decode cX2_hasAt 50 = .ok (.iconst 1, 1) := by decide +kernel
theorem dX2_hasAt_51 : decode cX2_hasAt 51 = .ok (.ireturn, 1) := by decide +kernel
theorem dJ7_fill_53178_0 : decode cJ7_fill_53178 0 = .ok (.iconst 0, 1) := by decide +kernel
theorem dJ7_fill_53178_1 : decode cJ7_fill_53178 1 = .ok (.istore_n 2, 1) := by decide +kernel
theorem dJ7_fill_53178_2 : decode cJ7_fill_53178 2 = .ok (.aload_n 0, 1) := by decide +kernel
theorem dJ7_fill_53178_3 : decode cJ7_fill_53178 3 = .ok (.arraylength, 1) := by decide +kernel
theorem dJ7_fill_53178_4 : decode cJ7_fill_53178 4 = .ok (.istore_n 3, 1) := by decide +kernel
theorem dJ7_fill_53178_5 : decode cJ7_fill_53178 5 = .ok (.iload_n 2, 1) := by decide +kernel
theorem dJ7_fill_53178_6 : decode cJ7_fill_53178 6 = .ok (.iload_n 3, 1) := by decide +kernel
theorem dJ7_fill_53178_7 : decode cJ7_fill_53178 7 = .ok (.if_icmp .ge 13, 3) := by decide +kernel
theorem dJ7_fill_53178_10 : decode cJ7_fill_53178 10 = .ok (.aload_n 0, 1) := by decide +kernel
theorem dJ7_fill_53178_11 : decode cJ7_fill_53178 11 = .ok (.iload_n 2, 1) := by decide +kernel
theorem dJ7_fill_53178_12 : decode cJ7_fill_53178 12 = .ok (.iload_n 1, 1) := by decide +kernel
theorem dJ7_fill_53178_13 : decode cJ7_fill_53178 13 = .ok (.iastore, 1) := by decide +kernel
theorem dJ7_fill_53178_14 : decode cJ7_fill_53178 14 = .ok (.iinc 2 1, 3) := by decide +kernel
theorem dJ7_fill_53178_17 : decode cJ7_fill_53178 17 = .ok (.goto (-12), 3) := by decide +kernel
theorem dJ7_fill_53178_20 : decode cJ7_fill_53178 20 = .ok (.return_, 1) := by decide +kernel
theorem dJ9_min_7cf53_0 : decode cJ9_min_7cf53 0 = .ok (.iload_n 0, 1) := by decide +kernel
theorem dJ9_min_7cf53_1 : decode cJ9_min_7cf53 1 = .ok (.iload_n 1, 1) := by decide +kernel
theorem dJ9_min_7cf53_2 : decode cJ9_min_7cf53 2 = .ok (.if_icmp .gt 7, 3) := by decide +kernel
theorem dJ9_min_7cf53_5 : decode cJ9_min_7cf53 5 = .ok (.iload_n 0, 1) := by decide +kernel
theorem dJ9_min_7cf53_6 : decode cJ9_min_7cf53 6 = .ok (.goto 4, 3) := by decide +kernel
theorem dJ9_min_7cf53_9 : decode cJ9_min_7cf53 9 = .ok (.iload_n 1, 1) := by decide +kernel
theorem dJ9_min_7cf53_10 : decode cJ9_min_7cf53 10 = .ok (.ireturn, 1) := by decide +kernel

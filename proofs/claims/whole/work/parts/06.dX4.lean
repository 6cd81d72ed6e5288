theorem dX4_init_0 : decode cX4_init 0 = .ok (.aload_n 0, 1) := by decide +kernel
theorem dX4_init_1 : decode cX4_init 1 = .ok (.invokespecial 1, 3) := by decide +kernel
theorem dX4_init_4 : decode cX4_init 4 = .ok (.aload_n 0, 1) := by decide +kernel
theorem dX4_init_5 : decode cX4_init 5 = .ok (.sipush 3120, 3) := by decide +kernel
theorem dX4_init_8 : decode cX4_init 8 = .ok (.newarray .int, 2) := by decide +kernel
theorem dX4_init_10 : decode cX4_init 10 = .ok (.putfield 7, 3) := by decide +kernel
theorem dX4_init_13 : decode cX4_init 13 = .ok (.aload_n 0, 1) := by decide +kernel
theorem dX4_init_14 : decode cX4_init 14 = .ok (.bipush 13, 2) := by decide +kernel
theorem dX4_init_16 : decode cX4_init 16 = .ok (.newarray .int, 2) := by decide +kernel
theorem dX4_init_18 : decode cX4_init 18 = .ok (.putfield 13, 3) := by decide +kernel
theorem dX4_init_21 : decode cX4_init 21 = .ok (.aload_n 0, 1) := by decide +kernel
theorem dX4_init_22 : decode cX4_init 22 = .ok (.sipush 240, 3) := by decide +kernel
theorem dX4_init_25 : decode cX4_init 25 = .ok (.newarray .int, 2) := by decide +kernel
theorem dX4_init_27 : decode cX4_init 27 = .ok (.putfield 16, 3) := by decide +kernel
theorem dX4_init_30 : decode cX4_init 30 = .ok (.aload_n 0, 1) := by decide +kernel
theorem dX4_init_31 : decode cX4_init 31 = .ok (.bipush 16, 2) := by decide +kernel
theorem dX4_init_33 : decode cX4_init 33 = .ok (.newarray .int, 2) := by decide +kernel
theorem dX4_init_35 : decode cX4_init 35 = .ok (.putfield 19, 3) := by decide +kernel
theorem dX4_init_38 : decode cX4_init 38 = .ok (.aload_n 0, 1) := by decide +kernel
theorem dX4_init_39 : decode cX4_init 39 = .ok (.sipush 240, 3) := by decide +kernel
theorem dX4_init_42 : decode cX4_init 42 = .ok (.newarray .int, 2) := by decide +kernel
theorem dX4_init_44 : decode cX4_init 44 = .ok (.putfield 22, 3) := by decide +kernel
theorem dX4_init_47 : decode cX4_init 47 = .ok (.aload_n 0, 1) := by decide +kernel
theorem dX4_init_48 : decode cX4_init 48 = .ok (.sipush 241, 3) := by decide +kernel
theorem dX4_init_51 : decode cX4_init 51 = .ok (.newarray .int, 2) := by decide +kernel
theorem dX4_init_53 : decode cX4_init 53 = .ok (.putfield 25, 3) := by decide +kernel
theorem dX4_init_56 : decode cX4_init 56 = .ok (.aload_n 0, 1) := by decide +kernel
theorem dX4_init_57 : decode cX4_init 57 = .ok (.sipush 241, 3) := by decide +kernel
theorem dX4_init_60 : decode cX4_init 60 = .ok (.newarray .int, 2) := by decide +kernel
theorem dX4_init_62 : decode cX4_init 62 = .ok (.putfield 28, 3) := by decide +kernel
theorem dX4_init_65 : decode cX4_init 65 = .ok (.return_, 1) := by decide +kernel
theorem dX4_thrown_0 : decode cX4_thrown 0 = .ok (.aload_n 0, 1) := by decide +kernel
theorem dX4_thrown_1 : decode cX4_thrown 1 = .ok (.getfield 31, 3) := by decide +kernel
theorem dX4_thrown_4 : decode cX4_thrown 4 = .ok (.ireturn, 1) := by decide +kernel
theorem dX4_length_0 : decode cX4_length 0 = .ok (.aload_n 0, 1) := by decide +kernel
theorem dX4_length_1 : decode cX4_length 1 = .ok (.getfield 13, 3) := by decide +kernel
theorem dX4_length_4 : decode cX4_length 4 = .ok (.aload_n 0, 1) := by decide +kernel
theorem dX4_length_5 : decode cX4_length 5 = .ok (.getfield 35, 3) := by decide +kernel
theorem dX4_length_8 : decode cX4_length 8 = .ok (.iaload, 1) := by decide +kernel
theorem dX4_length_9 : decode cX4_length 9 = .ok (.ireturn, 1) := by decide +kernel
theorem dX4_charAt_0 : decode cX4_charAt 0 = .ok (.aload_n 0, 1) := by decide +kernel
theorem dX4_charAt_1 : decode cX4_charAt 1 = .ok (.getfield 7, 3) := by decide +kernel
theorem dX4_charAt_4 : decode cX4_charAt 4 = .ok (.sipush 240, 3) := by decide +kernel
theorem dX4_charAt_7 : decode cX4_charAt 7 = .ok (.aload_n 0, 1) := by decide +kernel
theorem dX4_charAt_8 : decode cX4_charAt 8 = .ok (.getfield 35, 3) := by decide +kernel
theorem dX4_charAt_11 : decode cX4_charAt 11 = .ok (.imul, 1) := by decide +kernel
theorem dX4_charAt_12 : decode cX4_charAt 12 = .ok (.iload_n 1, 1) := by decide +kernel
theorem dX4_charAt_13 : decode cX4_charAt 13 = .ok (.iadd, 1) := by decide +kernel
theorem dX4_charAt_14 : decode cX4_charAt 14 = .ok (.iaload, 1) := by decide +kernel
theorem dX4_charAt_15 : decode cX4_charAt 15 = .ok (.ireturn, 1) := by decide +kernel
theorem dX4_isIn_0 : decode cX4_isIn 0 = .ok (.lload_n 0, 1) := by decide +kernel
theorem dX4_isIn_1 : decode cX4_isIn 1 = .ok (.lload_n 2, 1) := by decide +kernel
theorem dX4_isIn_2 : decode cX4_isIn 2 = .ok (.lcmp, 1) := by decide +kernel
theorem dX4_isIn_3 : decode cX4_isIn 3 = .ok (.ifCond .lt 14, 3) := by decide +kernel
theorem dX4_isIn_6 : decode cX4_isIn 6 = .ok (.lload_n 0, 1) := by decide +kernel
theorem dX4_isIn_7 : decode cX4_isIn 7 = .ok (.lload 4, 2) := by decide +kernel
theorem dX4_isIn_9 : decode cX4_isIn 9 = .ok (.lcmp, 1) := by decide +kernel
theorem dX4_isIn_10 : decode cX4_isIn 10 = .ok (.ifCond .gt 7, 3) := by decide +kernel
theorem dX4_isIn_13 : decode cX4_isIn 13 = .ok (.iconst 1, 1) := by decide +kernel
theorem dX4_isIn_14 : decode cX4_isIn 14 = .ok (.goto 4, 3) := by decide +kernel
theorem dX4_isIn_17 : decode cX4_isIn 17 = .ok (.iconst 0, 1) := by decide +kernel
theorem dX4_isIn_18 : decode cX4_isIn 18 = .ok (.ireturn, 1) := by decide +kernel
set_option maxRecDepth 20000 in
theorem ggX4_draftFrom_X4_charAt : GoodIn wsX4_draftFrom wsX4_charAt := goodIn_r _ [7, 8, 9, 10, 11, 12, 13, 14, 15, 16, 17, 18, 19, 20, 21, 22] (by decide +kernel) (by decide +kernel)
set_option maxRecDepth 20000 in
theorem gX4_draftFrom_X4_charAt : GoodIn wsX4_draftFrom (wsV RX4 41 RX4 yX4_charAt wsX4_charAt) := goodIn_app (goodIn_of _ (by decide +kernel)) ggX4_draftFrom_X4_charAt
theorem dX4_draftFrom_0 : decode cX4_draftFrom 0 = .ok (.iload_n 1, 1) := by decide +kernel
theorem dX4_draftFrom_1 : decode cX4_draftFrom 1 = .ok (.istore_n 3, 1) := by decide +kernel
theorem dX4_draftFrom_2 : decode cX4_draftFrom 2 = .ok (.iload_n 3, 1) := by decide +kernel
theorem dX4_draftFrom_3 : decode cX4_draftFrom 3 = .ok (.iload_n 2, 1) := by decide +kernel
theorem dX4_draftFrom_4 : decode cX4_draftFrom 4 = .ok (.if_icmp .ge 33, 3) := by decide +kernel
theorem dX4_draftFrom_7 : decode cX4_draftFrom 7 = .ok (.aload_n 0, 1) := by decide +kernel
theorem dX4_draftFrom_8 : decode cX4_draftFrom 8 = .ok (.getfield 16, 3) := by decide +kernel
theorem dX4_draftFrom_11 : decode cX4_draftFrom 11 = .ok (.aload_n 0, 1) := by decide +kernel
theorem dX4_draftFrom_12 : decode cX4_draftFrom 12 = .ok (.getfield 38, 3) := by decide +kernel
theorem dX4_draftFrom_15 : decode cX4_draftFrom 15 = .ok (.aload_n 0, 1) := by decide +kernel
theorem dX4_draftFrom_16 : decode cX4_draftFrom 16 = .ok (.iload_n 3, 1) := by decide +kernel
theorem dX4_draftFrom_17 : decode cX4_draftFrom 17 = .ok (.invokevirtual 41, 3) := by decide +kernel
theorem dX4_draftFrom_20 : decode cX4_draftFrom 20 = .ok (.iastore, 1) := by decide +kernel
theorem dX4_draftFrom_21 : decode cX4_draftFrom 21 = .ok (.aload_n 0, 1) := by decide +kernel
theorem dX4_draftFrom_22 : decode cX4_draftFrom 22 = .ok (.dup, 1) := by decide +kernel
theorem dX4_draftFrom_23 : decode cX4_draftFrom 23 = .ok (.getfield 38, 3) := by decide +kernel
theorem dX4_draftFrom_26 : decode cX4_draftFrom 26 = .ok (.iconst 1, 1) := by decide +kernel
theorem dX4_draftFrom_27 : decode cX4_draftFrom 27 = .ok (.iadd, 1) := by decide +kernel
theorem dX4_draftFrom_28 : decode cX4_draftFrom 28 = .ok (.putfield 38, 3) := by decide +kernel
theorem dX4_draftFrom_31 : decode cX4_draftFrom 31 = .ok (.iinc 3 1, 3) := by decide +kernel
theorem dX4_draftFrom_34 : decode cX4_draftFrom 34 = .ok (.goto (-32), 3) := by decide +kernel
theorem dX4_draftFrom_37 : decode cX4_draftFrom 37 = .ok (.return_, 1) := by decide +kernel
theorem dX4_draftOne_0 : decode cX4_draftOne 0 = .ok (.aload_n 0, 1) := by decide +kernel
theorem dX4_draftOne_1 : decode cX4_draftOne 1 = .ok (.getfield 16, 3) := by decide +kernel
theorem dX4_draftOne_4 : decode cX4_draftOne 4 = .ok (.aload_n 0, 1) := by decide +kernel
theorem dX4_draftOne_5 : decode cX4_draftOne 5 = .ok (.getfield 38, 3) := by decide +kernel
theorem dX4_draftOne_8 : decode cX4_draftOne 8 = .ok (.iload_n 1, 1) := by decide +kernel
theorem dX4_draftOne_9 : decode cX4_draftOne 9 = .ok (.iastore, 1) := by decide +kernel
theorem dX4_draftOne_10 : decode cX4_draftOne 10 = .ok (.aload_n 0, 1) := by decide +kernel
theorem dX4_draftOne_11 : decode cX4_draftOne 11 = .ok (.dup, 1) := by decide +kernel
theorem dX4_draftOne_12 : decode cX4_draftOne 12 = .ok (.getfield 38, 3) := by decide +kernel
theorem dX4_draftOne_15 : decode cX4_draftOne 15 = .ok (.iconst 1, 1) := by decide +kernel
theorem dX4_draftOne_16 : decode cX4_draftOne 16 = .ok (.iadd, 1) := by decide +kernel
theorem dX4_draftOne_17 : decode cX4_draftOne 17 = .ok (.putfield 38, 3) := by decide +kernel
theorem dX4_draftOne_20 : decode cX4_draftOne 20 = .ok (.return_, 1) := by decide +kernel
theorem dX4_act_0 : decode cX4_act 0 = .ok (.aload_n 0, 1) := by decide +kernel
theorem dX4_act_1 : decode cX4_act 1 = .ok (.getfield 35, 3) := by decide +kernel
theorem dX4_act_4 : decode cX4_act 4 = .ok (.bipush 12, 2) := by decide +kernel
theorem dX4_act_6 : decode cX4_act 6 = .ok (.if_icmp .ne 68, 3) := by decide +kernel
theorem dX4_act_9 : decode cX4_act 9 = .ok (.iconst 0, 1) := by decide +kernel
theorem dX4_act_10 : decode cX4_act 10 = .ok (.istore_n 1, 1) := by decide +kernel
theorem dX4_act_11 : decode cX4_act 11 = .ok (.iload_n 1, 1) := by decide +kernel
theorem dX4_act_12 : decode cX4_act 12 = .ok (.sipush 2880, 3) := by decide +kernel
theorem dX4_act_15 : decode cX4_act 15 = .ok (.if_icmp .ge 25, 3) := by decide +kernel
theorem dX4_act_18 : decode cX4_act 18 = .ok (.aload_n 0, 1) := by decide +kernel
theorem dX4_act_19 : decode cX4_act 19 = .ok (.getfield 7, 3) := by decide +kernel
theorem dX4_act_22 : decode cX4_act 22 = .ok (.iload_n 1, 1) := by decide +kernel
theorem dX4_act_23 : decode cX4_act 23 = .ok (.aload_n 0, 1) := by decide +kernel
theorem dX4_act_24 : decode cX4_act 24 = .ok (.getfield 7, 3) := by decide +kernel
theorem dX4_act_27 : decode cX4_act 27 = .ok (.iload_n 1, 1) := by decide +kernel
theorem dX4_act_28 : decode cX4_act 28 = .ok (.sipush 240, 3) := by decide +kernel
theorem dX4_act_31 : decode cX4_act 31 = .ok (.iadd, 1) := by decide +kernel
theorem dX4_act_32 : decode cX4_act 32 = .ok (.iaload, 1) := by decide +kernel
theorem dX4_act_33 : decode cX4_act 33 = .ok (.iastore, 1) := by decide +kernel
theorem dX4_act_34 : decode cX4_act 34 = .ok (.iinc 1 1, 3) := by decide +kernel
theorem dX4_act_37 : decode cX4_act 37 = .ok (.goto (-26), 3) := by decide +kernel
theorem dX4_act_40 : decode cX4_act 40 = .ok (.iconst 0, 1) := by decide +kernel
theorem dX4_act_41 : decode cX4_act 41 = .ok (.istore_n 1, 1) := by decide +kernel
theorem dX4_act_42 : decode cX4_act 42 = .ok (.iload_n 1, 1) := by decide +kernel
theorem dX4_act_43 : decode cX4_act 43 = .ok (.bipush 12, 2) := by decide +kernel
theorem dX4_act_45 : decode cX4_act 45 = .ok (.if_icmp .ge 23, 3) := by decide +kernel
theorem dX4_act_48 : decode cX4_act 48 = .ok (.aload_n 0, 1) := by decide +kernel
theorem dX4_act_49 : decode cX4_act 49 = .ok (.getfield 13, 3) := by decide +kernel
theorem dX4_act_52 : decode cX4_act 52 = .ok (.iload_n 1, 1) := by decide +kernel
theorem dX4_act_53 : decode cX4_act 53 = .ok (.aload_n 0, 1) := by decide +kernel
theorem dX4_act_54 : decode cX4_act 54 = .ok (.getfield 13, 3) := by decide +kernel
theorem dX4_act_57 : decode cX4_act 57 = .ok (.iload_n 1, 1) := by decide +kernel
theorem dX4_act_58 : decode cX4_act 58 = .ok (.iconst 1, 1) := by decide +kernel
theorem dX4_act_59 : decode cX4_act 59 = .ok (.iadd, 1) := by decide +kernel
theorem dX4_act_60 : decode cX4_act 60 = .ok (.iaload, 1) := by decide +kernel
theorem dX4_act_61 : decode cX4_act 61 = .ok (.iastore, 1) := by decide +kernel
theorem dX4_act_62 : decode cX4_act 62 = .ok (.iinc 1 1, 3) := by decide +kernel
theorem dX4_act_65 : decode cX4_act 65 = .ok (.goto (-23), 3) := by decide +kernel
theorem dX4_act_68 : decode cX4_act 68 = .ok (.aload_n 0, 1) := by decide +kernel
theorem dX4_act_69 : decode cX4_act 69 = .ok (.bipush 11, 2) := by decide +kernel
theorem dX4_act_71 : decode cX4_act 71 = .ok (.putfield 35, 3) := by decide +kernel
theorem dX4_act_74 : decode cX4_act 74 = .ok (.aload_n 0, 1) := by decide +kernel
theorem dX4_act_75 : decode cX4_act 75 = .ok (.dup, 1) := by decide +kernel
theorem dX4_act_76 : decode cX4_act 76 = .ok (.getfield 35, 3) := by decide +kernel
theorem dX4_act_79 : decode cX4_act 79 = .ok (.iconst 1, 1) := by decide +kernel
theorem dX4_act_80 : decode cX4_act 80 = .ok (.iadd, 1) := by decide +kernel
theorem dX4_act_81 : decode cX4_act 81 = .ok (.putfield 35, 3) := by decide +kernel
theorem dX4_act_84 : decode cX4_act 84 = .ok (.aload_n 0, 1) := by decide +kernel
theorem dX4_act_85 : decode cX4_act 85 = .ok (.iconst 0, 1) := by decide +kernel
theorem dX4_act_86 : decode cX4_act 86 = .ok (.putfield 45, 3) := by decide +kernel
theorem dX4_act_89 : decode cX4_act 89 = .ok (.aload_n 0, 1) := by decide +kernel
theorem dX4_act_90 : decode cX4_act 90 = .ok (.getfield 13, 3) := by decide +kernel
theorem dX4_act_93 : decode cX4_act 93 = .ok (.aload_n 0, 1) := by decide +kernel
theorem dX4_act_94 : decode cX4_act 94 = .ok (.getfield 35, 3) := by decide +kernel
theorem dX4_act_97 : decode cX4_act 97 = .ok (.aload_n 0, 1) := by decide +kernel
theorem dX4_act_98 : decode cX4_act 98 = .ok (.getfield 38, 3) := by decide +kernel
theorem dX4_act_101 : decode cX4_act 101 = .ok (.iastore, 1) := by decide +kernel
theorem dX4_act_102 : decode cX4_act 102 = .ok (.iconst 0, 1) := by decide +kernel
theorem dX4_act_103 : decode cX4_act 103 = .ok (.istore_n 1, 1) := by decide +kernel
theorem dX4_act_104 : decode cX4_act 104 = .ok (.iload_n 1, 1) := by decide +kernel
theorem dX4_act_105 : decode cX4_act 105 = .ok (.aload_n 0, 1) := by decide +kernel
theorem dX4_act_106 : decode cX4_act 106 = .ok (.getfield 38, 3) := by decide +kernel
theorem dX4_act_109 : decode cX4_act 109 = .ok (.if_icmp .ge 30, 3) := by decide +kernel
theorem dX4_act_112 : decode cX4_act 112 = .ok (.aload_n 0, 1) := by decide +kernel
theorem dX4_act_113 : decode cX4_act 113 = .ok (.getfield 7, 3) := by decide +kernel
theorem dX4_act_116 : decode cX4_act 116 = .ok (.sipush 240, 3) := by decide +kernel
theorem dX4_act_119 : decode cX4_act 119 = .ok (.aload_n 0, 1) := by decide +kernel
theorem dX4_act_120 : decode cX4_act 120 = .ok (.getfield 35, 3) := by decide +kernel
theorem dX4_act_123 : decode cX4_act 123 = .ok (.imul, 1) := by decide +kernel
theorem dX4_act_124 : decode cX4_act 124 = .ok (.iload_n 1, 1) := by decide +kernel
theorem dX4_act_125 : decode cX4_act 125 = .ok (.iadd, 1) := by decide +kernel
theorem dX4_act_126 : decode cX4_act 126 = .ok (.aload_n 0, 1) := by decide +kernel
theorem dX4_act_127 : decode cX4_act 127 = .ok (.getfield 16, 3) := by decide +kernel
theorem dX4_act_130 : decode cX4_act 130 = .ok (.iload_n 1, 1) := by decide +kernel
theorem dX4_act_131 : decode cX4_act 131 = .ok (.iaload, 1) := by decide +kernel
theorem dX4_act_132 : decode cX4_act 132 = .ok (.iastore, 1) := by decide +kernel
theorem dX4_act_133 : decode cX4_act 133 = .ok (.iinc 1 1, 3) := by decide +kernel
theorem dX4_act_136 : decode cX4_act 136 = .ok (.goto (-32), 3) := by decide +kernel
theorem dX4_act_139 : decode cX4_act 139 = .ok (.aload_n 0, 1) := by decide +kernel
theorem dX4_act_140 : decode cX4_act 140 = .ok (.getfield 38, 3) := by decide +kernel
theorem dX4_act_143 : decode cX4_act 143 = .ok (.ireturn, 1) := by decide +kernel
set_option maxRecDepth 20000 in
theorem ggX4_insert_X4_length : GoodIn wsX4_insert wsX4_length := goodIn_r _ [8, 9, 10, 33, 34, 35, 36, 37, 38, 39, 40, 41, 42, 43, 44, 45] (by decide +kernel) (by decide +kernel)
set_option maxRecDepth 20000 in
theorem gX4_insert_X4_length : GoodIn wsX4_insert (wsV RX4 48 RX4 yX4_length wsX4_length) := goodIn_app (goodIn_of _ (by decide +kernel)) ggX4_insert_X4_length
set_option maxRecDepth 20000 in
theorem ggX4_insert_X4_isIn : GoodIn wsX4_insert wsX4_isIn := goodIn_r _ [13] (by decide +kernel) (by decide +kernel)
set_option maxRecDepth 20000 in
theorem gX4_insert_X4_isIn : GoodIn wsX4_insert (va_wsS RX4 52 yX4_isIn wsX4_isIn) := goodIn_app (goodIn_of _ (by decide +kernel)) ggX4_insert_X4_isIn
set_option maxRecDepth 20000 in
theorem ggX4_insert_X4_draftFrom : GoodIn wsX4_insert wsX4_draftFrom := goodIn_r _ [17, 18, 3, 19, 20, 21, 7, 22, 23, 10, 33, 34, 35, 36, 37, 38, 39, 40, 41, 42, 43, 44, 45] (by decide +kernel) (by decide +kernel)
set_option maxRecDepth 20000 in
theorem gX4_insert_X4_draftFrom : GoodIn wsX4_insert (wsV RX4 58 RX4 yX4_draftFrom wsX4_draftFrom) := goodIn_app (goodIn_of _ (by decide +kernel)) ggX4_insert_X4_draftFrom
set_option maxRecDepth 20000 in
theorem ggX4_insert_X4_draftOne : GoodIn wsX4_insert wsX4_draftOne := goodIn_r _ [27, 18, 3, 33, 34, 35, 36, 37, 38, 39, 40, 41, 42, 43, 44, 45] (by decide +kernel) (by decide +kernel)
set_option maxRecDepth 20000 in
theorem gX4_insert_X4_draftOne : GoodIn wsX4_insert (wsV RX4 62 RX4 yX4_draftOne wsX4_draftOne) := goodIn_app (goodIn_of _ (by decide +kernel)) ggX4_insert_X4_draftOne
set_option maxRecDepth 20000 in
theorem ggX4_insert_X4_act : GoodIn wsX4_insert wsX4_act := goodIn_r _ [31, 10, 23, 9, 32, 3, 18, 33, 34, 35, 36, 37, 38, 39, 40, 41, 42, 43, 44, 45] (by decide +kernel) (by decide +kernel)
set_option maxRecDepth 20000 in
theorem gX4_insert_X4_act : GoodIn wsX4_insert (wsV RX4 66 RX4 yX4_act wsX4_act) := goodIn_app (goodIn_of _ (by decide +kernel)) ggX4_insert_X4_act
theorem dX4_insert_0 : decode cX4_insert 0 = .ok (.aload_n 0, 1) := by decide +kernel
theorem dX4_insert_1 : decode cX4_insert 1 = .ok (.iload_n 1, 1) := by decide +kernel
theorem dX4_insert_2 : decode cX4_insert 2 = .ok (.i2l, 1) := by decide +kernel
theorem dX4_insert_3 : decode cX4_insert 3 = .ok (.lconst 0, 1) := by decide +kernel
theorem dX4_insert_4 : decode cX4_insert 4 = .ok (.aload_n 0, 1) := by decide +kernel
theorem dX4_insert_5 : decode cX4_insert 5 = .ok (.invokevirtual 48, 3) := by decide +kernel
theorem dX4_insert_8 : decode cX4_insert 8 = .ok (.i2l, 1) := by decide +kernel
theorem dX4_insert_9 : decode cX4_insert 9 = .ok (.invokestatic 52, 3) := by decide +kernel
theorem dX4_insert_12 : decode cX4_insert 12 = .ok (.ifCond .ne 7, 3) := by decide +kernel
theorem dX4_insert_15 : decode cX4_insert 15 = .ok (.iconst 1, 1) := by decide +kernel
theorem dX4_insert_16 : decode cX4_insert 16 = .ok (.goto 34, 3) := by decide +kernel
theorem dX4_insert_19 : decode cX4_insert 19 = .ok (.iload_n 2, 1) := by decide +kernel
theorem dX4_insert_20 : decode cX4_insert 20 = .ok (.i2l, 1) := by decide +kernel
theorem dX4_insert_21 : decode cX4_insert 21 = .ok (.lconst 0, 1) := by decide +kernel
theorem dX4_insert_22 : decode cX4_insert 22 = .ok (.ldc2_w 56, 3) := by decide +kernel
theorem dX4_insert_25 : decode cX4_insert 25 = .ok (.invokestatic 52, 3) := by decide +kernel
theorem dX4_insert_28 : decode cX4_insert 28 = .ok (.ifCond .ne 7, 3) := by decide +kernel
theorem dX4_insert_31 : decode cX4_insert 31 = .ok (.iconst 2, 1) := by decide +kernel
theorem dX4_insert_32 : decode cX4_insert 32 = .ok (.goto 18, 3) := by decide +kernel
theorem dX4_insert_35 : decode cX4_insert 35 = .ok (.aload_n 0, 1) := by decide +kernel
theorem dX4_insert_36 : decode cX4_insert 36 = .ok (.invokevirtual 48, 3) := by decide +kernel
theorem dX4_insert_39 : decode cX4_insert 39 = .ok (.sipush 240, 3) := by decide +kernel
theorem dX4_insert_42 : decode cX4_insert 42 = .ok (.if_icmp .ne 7, 3) := by decide +kernel
theorem dX4_insert_45 : decode cX4_insert 45 = .ok (.iconst 3, 1) := by decide +kernel
theorem dX4_insert_46 : decode cX4_insert 46 = .ok (.goto 4, 3) := by decide +kernel
theorem dX4_insert_49 : decode cX4_insert 49 = .ok (.iconst 0, 1) := by decide +kernel
theorem dX4_insert_50 : decode cX4_insert 50 = .ok (.putfield 31, 3) := by decide +kernel
theorem dX4_insert_53 : decode cX4_insert 53 = .ok (.aload_n 0, 1) := by decide +kernel
theorem dX4_insert_54 : decode cX4_insert 54 = .ok (.getfield 31, 3) := by decide +kernel
theorem dX4_insert_57 : decode cX4_insert 57 = .ok (.ifCond .le 5, 3) := by decide +kernel
theorem dX4_insert_60 : decode cX4_insert 60 = .ok (.iconst 0, 1) := by decide +kernel
theorem dX4_insert_61 : decode cX4_insert 61 = .ok (.ireturn, 1) := by decide +kernel
theorem dX4_insert_62 : decode cX4_insert 62 = .ok (.aload_n 0, 1) := by decide +kernel
theorem dX4_insert_63 : decode cX4_insert 63 = .ok (.iconst 0, 1) := by decide +kernel
theorem dX4_insert_64 : decode cX4_insert 64 = .ok (.putfield 38, 3) := by decide +kernel
theorem dX4_insert_67 : decode cX4_insert 67 = .ok (.aload_n 0, 1) := by decide +kernel
theorem dX4_insert_68 : decode cX4_insert 68 = .ok (.iconst 0, 1) := by decide +kernel
theorem dX4_insert_69 : decode cX4_insert 69 = .ok (.iload_n 1, 1) := by decide +kernel
theorem dX4_insert_70 : decode cX4_insert 70 = .ok (.invokevirtual 58, 3) := by decide +kernel
theorem dX4_insert_73 : decode cX4_insert 73 = .ok (.aload_n 0, 1) := by decide +kernel
theorem dX4_insert_74 : decode cX4_insert 74 = .ok (.iload_n 2, 1) := by decide +kernel
theorem dX4_insert_75 : decode cX4_insert 75 = .ok (.invokevirtual 62, 3) := by decide +kernel
theorem dX4_insert_78 : decode cX4_insert 78 = .ok (.aload_n 0, 1) := by decide +kernel
theorem dX4_insert_79 : decode cX4_insert 79 = .ok (.iload_n 1, 1) := by decide +kernel
theorem dX4_insert_80 : decode cX4_insert 80 = .ok (.aload_n 0, 1) := by decide +kernel
theorem dX4_insert_81 : decode cX4_insert 81 = .ok (.invokevirtual 48, 3) := by decide +kernel
theorem dX4_insert_84 : decode cX4_insert 84 = .ok (.invokevirtual 58, 3) := by decide +kernel
theorem dX4_insert_87 : decode cX4_insert 87 = .ok (.aload_n 0, 1) := by decide +kernel
theorem dX4_insert_88 : decode cX4_insert 88 = .ok (.invokevirtual 66, 3) := by decide +kernel
theorem dX4_insert_91 : decode cX4_insert 91 = .ok (.ireturn, 1) := by decide +kernel
set_option maxRecDepth 20000 in
theorem ggX4_delete_X4_length : GoodIn wsX4_delete wsX4_length := goodIn_r _ [7, 8, 9, 28, 29, 30, 31, 32, 33, 34, 35, 36, 37, 38, 39, 40] (by decide +kernel) (by decide +kernel)
set_option maxRecDepth 20000 in
theorem gX4_delete_X4_length : GoodIn wsX4_delete (wsV RX4 48 RX4 yX4_length wsX4_length) := goodIn_app (goodIn_of _ (by decide +kernel)) ggX4_delete_X4_length
set_option maxRecDepth 20000 in
theorem ggX4_delete_X4_isIn : GoodIn wsX4_delete wsX4_isIn := goodIn_r _ [12] (by decide +kernel) (by decide +kernel)
set_option maxRecDepth 20000 in
theorem gX4_delete_X4_isIn : GoodIn wsX4_delete (va_wsS RX4 52 yX4_isIn wsX4_isIn) := goodIn_app (goodIn_of _ (by decide +kernel)) ggX4_delete_X4_isIn
set_option maxRecDepth 20000 in
theorem ggX4_delete_X4_draftFrom : GoodIn wsX4_delete wsX4_draftFrom := goodIn_r _ [16, 17, 2, 18, 19, 20, 6, 21, 22, 9, 28, 29, 30, 31, 32, 33, 34, 35, 36, 37, 38, 39, 40] (by decide +kernel) (by decide +kernel)
set_option maxRecDepth 20000 in
theorem gX4_delete_X4_draftFrom : GoodIn wsX4_delete (wsV RX4 58 RX4 yX4_draftFrom wsX4_draftFrom) := goodIn_app (goodIn_of _ (by decide +kernel)) ggX4_delete_X4_draftFrom
set_option maxRecDepth 20000 in
theorem ggX4_delete_X4_act : GoodIn wsX4_delete wsX4_act := goodIn_r _ [26, 9, 22, 8, 27, 2, 17, 28, 29, 30, 31, 32, 33, 34, 35, 36, 37, 38, 39, 40] (by decide +kernel) (by decide +kernel)
set_option maxRecDepth 20000 in
theorem gX4_delete_X4_act : GoodIn wsX4_delete (wsV RX4 66 RX4 yX4_act wsX4_act) := goodIn_app (goodIn_of _ (by decide +kernel)) ggX4_delete_X4_act
theorem dX4_delete_0 : decode cX4_delete 0 = .ok (.aload_n 0, 1) := by decide +kernel
theorem dX4_delete_1 : decode cX4_delete 1 = .ok (.iload_n 1, 1) := by decide +kernel
theorem dX4_delete_2 : decode cX4_delete 2 = .ok (.i2l, 1) := by decide +kernel
theorem dX4_delete_3 : decode cX4_delete 3 = .ok (.lconst 0, 1) := by decide +kernel
theorem dX4_delete_4 : decode cX4_delete 4 = .ok (.aload_n 0, 1) := by decide +kernel
theorem dX4_delete_5 : decode cX4_delete 5 = .ok (.invokevirtual 48, 3) := by decide +kernel
theorem dX4_delete_8 : decode cX4_delete 8 = .ok (.i2l, 1) := by decide +kernel
theorem dX4_delete_9 : decode cX4_delete 9 = .ok (.invokestatic 52, 3) := by decide +kernel
theorem dX4_delete_12 : decode cX4_delete 12 = .ok (.ifCond .ne 7, 3) := by decide +kernel
theorem dX4_delete_15 : decode cX4_delete 15 = .ok (.iconst 1, 1) := by decide +kernel
theorem dX4_delete_16 : decode cX4_delete 16 = .ok (.goto 26, 3) := by decide +kernel
theorem dX4_delete_19 : decode cX4_delete 19 = .ok (.iload_n 2, 1) := by decide +kernel
theorem dX4_delete_20 : decode cX4_delete 20 = .ok (.ifCond .lt 17, 3) := by decide +kernel
theorem dX4_delete_23 : decode cX4_delete 23 = .ok (.iload_n 1, 1) := by decide +kernel
theorem dX4_delete_24 : decode cX4_delete 24 = .ok (.i2l, 1) := by decide +kernel
theorem dX4_delete_25 : decode cX4_delete 25 = .ok (.iload_n 2, 1) := by decide +kernel
theorem dX4_delete_26 : decode cX4_delete 26 = .ok (.i2l, 1) := by decide +kernel
theorem dX4_delete_27 : decode cX4_delete 27 = .ok (.ladd, 1) := by decide +kernel
theorem dX4_delete_28 : decode cX4_delete 28 = .ok (.aload_n 0, 1) := by decide +kernel
theorem dX4_delete_29 : decode cX4_delete 29 = .ok (.invokevirtual 48, 3) := by decide +kernel
theorem dX4_delete_32 : decode cX4_delete 32 = .ok (.i2l, 1) := by decide +kernel
theorem dX4_delete_33 : decode cX4_delete 33 = .ok (.lcmp, 1) := by decide +kernel
theorem dX4_delete_34 : decode cX4_delete 34 = .ok (.ifCond .le 7, 3) := by decide +kernel
theorem dX4_delete_37 : decode cX4_delete 37 = .ok (.iconst 2, 1) := by decide +kernel
theorem dX4_delete_38 : decode cX4_delete 38 = .ok (.goto 4, 3) := by decide +kernel
theorem dX4_delete_41 : decode cX4_delete 41 = .ok (.iconst 0, 1) := by decide +kernel
theorem dX4_delete_42 : decode cX4_delete 42 = .ok (.putfield 31, 3) := by decide +kernel
theorem dX4_delete_45 : decode cX4_delete 45 = .ok (.aload_n 0, 1) := by decide +kernel
theorem dX4_delete_46 : decode cX4_delete 46 = .ok (.getfield 31, 3) := by decide +kernel
theorem dX4_delete_49 : decode cX4_delete 49 = .ok (.ifCond .le 5, 3) := by decide +kernel
theorem dX4_delete_52 : decode cX4_delete 52 = .ok (.iconst 0, 1) := by decide +kernel
theorem dX4_delete_53 : decode cX4_delete 53 = .ok (.ireturn, 1) := by decide +kernel
theorem dX4_delete_54 : decode cX4_delete 54 = .ok (.aload_n 0, 1) := by decide +kernel
theorem dX4_delete_55 : decode cX4_delete 55 = .ok (.iconst 0, 1) := by decide +kernel
theorem dX4_delete_56 : decode cX4_delete 56 = .ok (.putfield 38, 3) := by decide +kernel
theorem dX4_delete_59 : decode cX4_delete 59 = .ok (.aload_n 0, 1) := by decide +kernel
theorem dX4_delete_60 : decode cX4_delete 60 = .ok (.iconst 0, 1) := by decide +kernel
theorem dX4_delete_61 : decode cX4_delete 61 = .ok (.iload_n 1, 1) := by decide +kernel
theorem dX4_delete_62 : decode cX4_delete 62 = .ok (.invokevirtual 58, 3) := by decide +kernel
theorem dX4_delete_65 : decode cX4_delete 65 = .ok (.aload_n 0, 1) := by decide +kernel
theorem dX4_delete_66 : decode cX4_delete 66 = .ok (.iload_n 1, 1) := by decide +kernel
theorem dX4_delete_67 : decode cX4_delete 67 = .ok (.iload_n 2, 1) := by decide +kernel
theorem dX4_delete_68 : decode cX4_delete 68 = .ok (.iadd, 1) := by decide +kernel
theorem dX4_delete_69 : decode cX4_delete 69 = .ok (.aload_n 0, 1) := by decide +kernel
theorem dX4_delete_70 : decode cX4_delete 70 = .ok (.invokevirtual 48, 3) := by decide +kernel
theorem dX4_delete_73 : decode cX4_delete 73 = .ok (.invokevirtual 58, 3) := by decide +kernel
theorem dX4_delete_76 : decode cX4_delete 76 = .ok (.aload_n 0, 1) := by decide +kernel
theorem dX4_delete_77 : decode cX4_delete 77 = .ok (.invokevirtual 66, 3) := by decide +kernel
theorem dX4_delete_80 : decode cX4_delete 80 = .ok (.ireturn, 1) := by decide +kernel
set_option maxRecDepth 20000 in
theorem ggX4_copy_X4_length : GoodIn wsX4_copy wsX4_length := goodIn_r _ [7, 8, 9, 28, 29, 30, 31, 32, 33, 34, 35, 36, 37, 38, 39, 40] (by decide +kernel) (by decide +kernel)
set_option maxRecDepth 20000 in
theorem gX4_copy_X4_length : GoodIn wsX4_copy (wsV RX4 48 RX4 yX4_length wsX4_length) := goodIn_app (goodIn_of _ (by decide +kernel)) ggX4_copy_X4_length
set_option maxRecDepth 20000 in
theorem ggX4_copy_X4_isIn : GoodIn wsX4_copy wsX4_isIn := goodIn_r _ [12] (by decide +kernel) (by decide +kernel)
set_option maxRecDepth 20000 in
theorem gX4_copy_X4_isIn : GoodIn wsX4_copy (va_wsS RX4 52 yX4_isIn wsX4_isIn) := goodIn_app (goodIn_of _ (by decide +kernel)) ggX4_copy_X4_isIn
set_option maxRecDepth 20000 in
theorem ggX4_copy_X4_draftFrom : GoodIn wsX4_copy wsX4_draftFrom := goodIn_r _ [16, 17, 2, 18, 19, 20, 6, 21, 22, 9, 28, 29, 30, 31, 32, 33, 34, 35, 36, 37, 38, 39, 40] (by decide +kernel) (by decide +kernel)
set_option maxRecDepth 20000 in
theorem gX4_copy_X4_draftFrom : GoodIn wsX4_copy (wsV RX4 58 RX4 yX4_draftFrom wsX4_draftFrom) := goodIn_app (goodIn_of _ (by decide +kernel)) ggX4_copy_X4_draftFrom
set_option maxRecDepth 20000 in
theorem ggX4_copy_X4_act : GoodIn wsX4_copy wsX4_act := goodIn_r _ [26, 9, 22, 8, 27, 2, 17, 28, 29, 30, 31, 32, 33, 34, 35, 36, 37, 38, 39, 40] (by decide +kernel) (by decide +kernel)
set_option maxRecDepth 20000 in
theorem gX4_copy_X4_act : GoodIn wsX4_copy (wsV RX4 66 RX4 yX4_act wsX4_act) := goodIn_app (goodIn_of _ (by decide +kernel)) ggX4_copy_X4_act
theorem dX4_copy_0 : decode cX4_copy 0 = .ok (.iload_n 1, 1) := by decide +kernel
theorem dX4_copy_1 : decode cX4_copy 1 = .ok (.i2l, 1) := by decide +kernel
theorem dX4_copy_2 : decode cX4_copy 2 = .ok (.lconst 0, 1) := by decide +kernel
theorem dX4_copy_3 : decode cX4_copy 3 = .ok (.aload_n 0, 1) := by decide +kernel
theorem dX4_copy_4 : decode cX4_copy 4 = .ok (.invokevirtual 48, 3) := by decide +kernel
theorem dX4_copy_7 : decode cX4_copy 7 = .ok (.i2l, 1) := by decide +kernel
theorem dX4_copy_8 : decode cX4_copy 8 = .ok (.invokestatic 52, 3) := by decide +kernel
theorem dX4_copy_11 : decode cX4_copy 11 = .ok (.ifCond .eq 21, 3) := by decide +kernel
theorem dX4_copy_14 : decode cX4_copy 14 = .ok (.iload_n 3, 1) := by decide +kernel
theorem dX4_copy_15 : decode cX4_copy 15 = .ok (.i2l, 1) := by decide +kernel
theorem dX4_copy_16 : decode cX4_copy 16 = .ok (.lconst 0, 1) := by decide +kernel
theorem dX4_copy_17 : decode cX4_copy 17 = .ok (.aload_n 0, 1) := by decide +kernel
theorem dX4_copy_18 : decode cX4_copy 18 = .ok (.invokevirtual 48, 3) := by decide +kernel
theorem dX4_copy_21 : decode cX4_copy 21 = .ok (.i2l, 1) := by decide +kernel
theorem dX4_copy_22 : decode cX4_copy 22 = .ok (.invokestatic 52, 3) := by decide +kernel
theorem dX4_copy_25 : decode cX4_copy 25 = .ok (.ifCond .eq 7, 3) := by decide +kernel
theorem dX4_copy_28 : decode cX4_copy 28 = .ok (.iconst 1, 1) := by decide +kernel
theorem dX4_copy_29 : decode cX4_copy 29 = .ok (.goto 4, 3) := by decide +kernel
theorem dX4_copy_32 : decode cX4_copy 32 = .ok (.iconst 0, 1) := by decide +kernel
theorem dX4_copy_33 : decode cX4_copy 33 = .ok (.istore 4, 2) := by decide +kernel
theorem dX4_copy_35 : decode cX4_copy 35 = .ok (.aload_n 0, 1) := by decide +kernel
theorem dX4_copy_36 : decode cX4_copy 36 = .ok (.iload 4, 2) := by decide +kernel
theorem dX4_copy_38 : decode cX4_copy 38 = .ok (.ifCond .ne 7, 3) := by decide +kernel
theorem dX4_copy_41 : decode cX4_copy 41 = .ok (.iconst 1, 1) := by decide +kernel
theorem dX4_copy_42 : decode cX4_copy 42 = .ok (.goto 42, 3) := by decide +kernel
theorem dX4_copy_45 : decode cX4_copy 45 = .ok (.iload_n 2, 1) := by decide +kernel
theorem dX4_copy_46 : decode cX4_copy 46 = .ok (.ifCond .lt 17, 3) := by decide +kernel
theorem dX4_copy_49 : decode cX4_copy 49 = .ok (.iload_n 1, 1) := by decide +kernel
theorem dX4_copy_50 : decode cX4_copy 50 = .ok (.i2l, 1) := by decide +kernel
theorem dX4_copy_51 : decode cX4_copy 51 = .ok (.iload_n 2, 1) := by decide +kernel
theorem dX4_copy_52 : decode cX4_copy 52 = .ok (.i2l, 1) := by decide +kernel
theorem dX4_copy_53 : decode cX4_copy 53 = .ok (.ladd, 1) := by decide +kernel
theorem dX4_copy_54 : decode cX4_copy 54 = .ok (.aload_n 0, 1) := by decide +kernel
theorem dX4_copy_55 : decode cX4_copy 55 = .ok (.invokevirtual 48, 3) := by decide +kernel
theorem dX4_copy_58 : decode cX4_copy 58 = .ok (.i2l, 1) := by decide +kernel
theorem dX4_copy_59 : decode cX4_copy 59 = .ok (.lcmp, 1) := by decide +kernel
theorem dX4_copy_60 : decode cX4_copy 60 = .ok (.ifCond .le 7, 3) := by decide +kernel
theorem dX4_copy_63 : decode cX4_copy 63 = .ok (.iconst 2, 1) := by decide +kernel
theorem dX4_copy_64 : decode cX4_copy 64 = .ok (.goto 20, 3) := by decide +kernel
theorem dX4_copy_67 : decode cX4_copy 67 = .ok (.aload_n 0, 1) := by decide +kernel
theorem dX4_copy_68 : decode cX4_copy 68 = .ok (.invokevirtual 48, 3) := by decide +kernel
theorem dX4_copy_71 : decode cX4_copy 71 = .ok (.iload_n 2, 1) := by decide +kernel
theorem dX4_copy_72 : decode cX4_copy 72 = .ok (.iadd, 1) := by decide +kernel
theorem dX4_copy_73 : decode cX4_copy 73 = .ok (.sipush 240, 3) := by decide +kernel
theorem dX4_copy_76 : decode cX4_copy 76 = .ok (.if_icmp .le 7, 3) := by decide +kernel
theorem dX4_copy_79 : decode cX4_copy 79 = .ok (.iconst 3, 1) := by decide +kernel
theorem dX4_copy_80 : decode cX4_copy 80 = .ok (.goto 4, 3) := by decide +kernel
theorem dX4_copy_83 : decode cX4_copy 83 = .ok (.iconst 0, 1) := by decide +kernel
theorem dX4_copy_84 : decode cX4_copy 84 = .ok (.putfield 31, 3) := by decide +kernel
theorem dX4_copy_87 : decode cX4_copy 87 = .ok (.aload_n 0, 1) := by decide +kernel
theorem dX4_copy_88 : decode cX4_copy 88 = .ok (.getfield 31, 3) := by decide +kernel
theorem dX4_copy_91 : decode cX4_copy 91 = .ok (.ifCond .le 5, 3) := by decide +kernel
theorem dX4_copy_94 : decode cX4_copy 94 = .ok (.iconst 0, 1) := by decide +kernel
theorem dX4_copy_95 : decode cX4_copy 95 = .ok (.ireturn, 1) := by decide +kernel
theorem dX4_copy_96 : decode cX4_copy 96 = .ok (.aload_n 0, 1) := by decide +kernel
theorem dX4_copy_97 : decode cX4_copy 97 = .ok (.iconst 0, 1) := by decide +kernel
theorem dX4_copy_98 : decode cX4_copy 98 = .ok (.putfield 38, 3) := by decide +kernel
theorem dX4_copy_101 : decode cX4_copy 101 = .ok (.aload_n 0, 1) := by decide +kernel
theorem dX4_copy_102 : decode cX4_copy 102 = .ok (.iconst 0, 1) := by decide +kernel
theorem dX4_copy_103 : decode cX4_copy 103 = .ok (.iload_n 3, 1) := by decide +kernel
theorem dX4_copy_104 : decode cX4_copy 104 = .ok (.invokevirtual 58, 3) := by decide +kernel
theorem dX4_copy_107 : decode cX4_copy 107 = .ok (.aload_n 0, 1) := by decide +kernel
theorem dX4_copy_108 : decode cX4_copy 108 = .ok (.iload_n 1, 1) := by decide +kernel
theorem dX4_copy_109 : decode cX4_copy 109 = .ok (.iload_n 1, 1) := by decide +kernel
theorem dX4_copy_110 : decode cX4_copy 110 = .ok (.iload_n 2, 1) := by decide +kernel
theorem dX4_copy_111 : decode cX4_copy 111 = .ok (.iadd, 1) := by decide +kernel
theorem dX4_copy_112 : decode cX4_copy 112 = .ok (.invokevirtual 58, 3) := by decide +kernel
theorem dX4_copy_115 : decode cX4_copy 115 = .ok (.aload_n 0, 1) := by decide +kernel
theorem dX4_copy_116 : decode cX4_copy 116 = .ok (.iload_n 3, 1) := by decide +kernel
theorem dX4_copy_117 : decode cX4_copy 117 = .ok (.aload_n 0, 1) := by decide +kernel
theorem dX4_copy_118 : decode cX4_copy 118 = .ok (.invokevirtual 48, 3) := by decide +kernel
theorem dX4_copy_121 : decode cX4_copy 121 = .ok (.invokevirtual 58, 3) := by decide +kernel
theorem dX4_copy_124 : decode cX4_copy 124 = .ok (.aload_n 0, 1) := by decide +kernel
theorem dX4_copy_125 : decode cX4_copy 125 = .ok (.invokevirtual 66, 3) := by decide +kernel
theorem dX4_copy_128 : decode cX4_copy 128 = .ok (.ireturn, 1) := by decide +kernel
set_option maxRecDepth 20000 in
theorem ggX4_at_X4_length : GoodIn wsX4_at wsX4_length := goodIn_r _ [6, 7, 8, 17, 18, 19, 20, 21, 22, 23, 24, 25, 26, 27, 28, 29] (by decide +kernel) (by decide +kernel)
set_option maxRecDepth 20000 in
theorem gX4_at_X4_length : GoodIn wsX4_at (wsV RX4 48 RX4 yX4_length wsX4_length) := goodIn_app (goodIn_of _ (by decide +kernel)) ggX4_at_X4_length
set_option maxRecDepth 20000 in
theorem ggX4_at_X4_isIn : GoodIn wsX4_at wsX4_isIn := goodIn_r _ [11] (by decide +kernel) (by decide +kernel)
set_option maxRecDepth 20000 in
theorem gX4_at_X4_isIn : GoodIn wsX4_at (va_wsS RX4 52 yX4_isIn wsX4_isIn) := goodIn_app (goodIn_of _ (by decide +kernel)) ggX4_at_X4_isIn
set_option maxRecDepth 20000 in
theorem ggX4_at_X4_charAt : GoodIn wsX4_at wsX4_charAt := goodIn_r _ [15, 16, 8, 17, 18, 19, 20, 21, 22, 23, 24, 25, 26, 27, 28, 29] (by decide +kernel) (by decide +kernel)
set_option maxRecDepth 20000 in
theorem gX4_at_X4_charAt : GoodIn wsX4_at (wsV RX4 41 RX4 yX4_charAt wsX4_charAt) := goodIn_app (goodIn_of _ (by decide +kernel)) ggX4_at_X4_charAt
theorem dX4_at_0 : decode cX4_at 0 = .ok (.aload_n 0, 1) := by decide +kernel
theorem dX4_at_1 : decode cX4_at 1 = .ok (.iload_n 1, 1) := by decide +kernel
theorem dX4_at_2 : decode cX4_at 2 = .ok (.i2l, 1) := by decide +kernel
theorem dX4_at_3 : decode cX4_at 3 = .ok (.lconst 0, 1) := by decide +kernel
theorem dX4_at_4 : decode cX4_at 4 = .ok (.aload_n 0, 1) := by decide +kernel
theorem dX4_at_5 : decode cX4_at 5 = .ok (.invokevirtual 48, 3) := by decide +kernel
theorem dX4_at_8 : decode cX4_at 8 = .ok (.iconst 1, 1) := by decide +kernel
theorem dX4_at_9 : decode cX4_at 9 = .ok (.isub, 1) := by decide +kernel
theorem dX4_at_10 : decode cX4_at 10 = .ok (.i2l, 1) := by decide +kernel
theorem dX4_at_11 : decode cX4_at 11 = .ok (.invokestatic 52, 3) := by decide +kernel
theorem dX4_at_14 : decode cX4_at 14 = .ok (.ifCond .eq 7, 3) := by decide +kernel
theorem dX4_at_17 : decode cX4_at 17 = .ok (.iconst 0, 1) := by decide +kernel
theorem dX4_at_18 : decode cX4_at 18 = .ok (.goto 4, 3) := by decide +kernel
theorem dX4_at_21 : decode cX4_at 21 = .ok (.iconst 1, 1) := by decide +kernel
theorem dX4_at_22 : decode cX4_at 22 = .ok (.putfield 31, 3) := by decide +kernel
theorem dX4_at_25 : decode cX4_at 25 = .ok (.aload_n 0, 1) := by decide +kernel
theorem dX4_at_26 : decode cX4_at 26 = .ok (.getfield 31, 3) := by decide +kernel
theorem dX4_at_29 : decode cX4_at 29 = .ok (.ifCond .le 7, 3) := by decide +kernel
theorem dX4_at_32 : decode cX4_at 32 = .ok (.iconst 0, 1) := by decide +kernel
theorem dX4_at_33 : decode cX4_at 33 = .ok (.goto 8, 3) := by decide +kernel
theorem dX4_at_36 : decode cX4_at 36 = .ok (.aload_n 0, 1) := by decide +kernel
theorem dX4_at_37 : decode cX4_at 37 = .ok (.iload_n 1, 1) := by decide +kernel
theorem dX4_at_38 : decode cX4_at 38 = .ok (.invokevirtual 41, 3) := by decide +kernel
theorem dX4_at_41 : decode cX4_at 41 = .ok (.ireturn, 1) := by decide +kernel
set_option maxRecDepth 20000 in
theorem ggX4_undo_X4_length : GoodIn wsX4_undo wsX4_length := goodIn_r _ [8, 9, 1, 10, 11, 12, 13, 14, 15, 16, 17, 18, 19, 20, 21, 22] (by decide +kernel) (by decide +kernel)
set_option maxRecDepth 20000 in
theorem gX4_undo_X4_length : GoodIn wsX4_undo (wsV RX4 48 RX4 yX4_length wsX4_length) := goodIn_app (goodIn_of _ (by decide +kernel)) ggX4_undo_X4_length
theorem dX4_undo_0 : decode cX4_undo 0 = .ok (.aload_n 0, 1) := by decide +kernel
theorem dX4_undo_1 : decode cX4_undo 1 = .ok (.aload_n 0, 1) := by decide +kernel
theorem dX4_undo_2 : decode cX4_undo 2 = .ok (.getfield 35, 3) := by decide +kernel
theorem dX4_undo_5 : decode cX4_undo 5 = .ok (.ifCond .ne 7, 3) := by decide +kernel
theorem dX4_undo_8 : decode cX4_undo 8 = .ok (.iconst 1, 1) := by decide +kernel
theorem dX4_undo_9 : decode cX4_undo 9 = .ok (.goto 4, 3) := by decide +kernel
theorem dX4_undo_12 : decode cX4_undo 12 = .ok (.iconst 0, 1) := by decide +kernel
theorem dX4_undo_13 : decode cX4_undo 13 = .ok (.putfield 31, 3) := by decide +kernel
theorem dX4_undo_16 : decode cX4_undo 16 = .ok (.aload_n 0, 1) := by decide +kernel
theorem dX4_undo_17 : decode cX4_undo 17 = .ok (.getfield 31, 3) := by decide +kernel
theorem dX4_undo_20 : decode cX4_undo 20 = .ok (.ifCond .le 5, 3) := by decide +kernel
theorem dX4_undo_23 : decode cX4_undo 23 = .ok (.iconst 0, 1) := by decide +kernel
theorem dX4_undo_24 : decode cX4_undo 24 = .ok (.ireturn, 1) := by decide +kernel
theorem dX4_undo_25 : decode cX4_undo 25 = .ok (.aload_n 0, 1) := by decide +kernel
theorem dX4_undo_26 : decode cX4_undo 26 = .ok (.dup, 1) := by decide +kernel
theorem dX4_undo_27 : decode cX4_undo 27 = .ok (.getfield 35, 3) := by decide +kernel
theorem dX4_undo_30 : decode cX4_undo 30 = .ok (.iconst 1, 1) := by decide +kernel
theorem dX4_undo_31 : decode cX4_undo 31 = .ok (.isub, 1) := by decide +kernel
theorem dX4_undo_32 : decode cX4_undo 32 = .ok (.putfield 35, 3) := by decide +kernel
theorem dX4_undo_35 : decode cX4_undo 35 = .ok (.aload_n 0, 1) := by decide +kernel
theorem dX4_undo_36 : decode cX4_undo 36 = .ok (.dup, 1) := by decide +kernel
theorem dX4_undo_37 : decode cX4_undo 37 = .ok (.getfield 45, 3) := by decide +kernel
theorem dX4_undo_40 : decode cX4_undo 40 = .ok (.iconst 1, 1) := by decide +kernel
theorem dX4_undo_41 : decode cX4_undo 41 = .ok (.iadd, 1) := by decide +kernel
theorem dX4_undo_42 : decode cX4_undo 42 = .ok (.putfield 45, 3) := by decide +kernel
theorem dX4_undo_45 : decode cX4_undo 45 = .ok (.aload_n 0, 1) := by decide +kernel
theorem dX4_undo_46 : decode cX4_undo 46 = .ok (.invokevirtual 48, 3) := by decide +kernel
theorem dX4_undo_49 : decode cX4_undo 49 = .ok (.ireturn, 1) := by decide +kernel
set_option maxRecDepth 20000 in
theorem ggX4_redo_X4_length : GoodIn wsX4_redo wsX4_length := goodIn_r _ [8, 9, 3, 10, 11, 12, 13, 14, 15, 16, 17, 18, 19, 20, 21, 22] (by decide +kernel) (by decide +kernel)
set_option maxRecDepth 20000 in
theorem gX4_redo_X4_length : GoodIn wsX4_redo (wsV RX4 48 RX4 yX4_length wsX4_length) := goodIn_app (goodIn_of _ (by decide +kernel)) ggX4_redo_X4_length
theorem dX4_redo_0 : decode cX4_redo 0 = .ok (.aload_n 0, 1) := by decide +kernel
theorem dX4_redo_1 : decode cX4_redo 1 = .ok (.aload_n 0, 1) := by decide +kernel
theorem dX4_redo_2 : decode cX4_redo 2 = .ok (.getfield 45, 3) := by decide +kernel
theorem dX4_redo_5 : decode cX4_redo 5 = .ok (.ifCond .ne 7, 3) := by decide +kernel
theorem dX4_redo_8 : decode cX4_redo 8 = .ok (.iconst 1, 1) := by decide +kernel
theorem dX4_redo_9 : decode cX4_redo 9 = .ok (.goto 4, 3) := by decide +kernel
theorem dX4_redo_12 : decode cX4_redo 12 = .ok (.iconst 0, 1) := by decide +kernel
theorem dX4_redo_13 : decode cX4_redo 13 = .ok (.putfield 31, 3) := by decide +kernel
theorem dX4_redo_16 : decode cX4_redo 16 = .ok (.aload_n 0, 1) := by decide +kernel
theorem dX4_redo_17 : decode cX4_redo 17 = .ok (.getfield 31, 3) := by decide +kernel
theorem dX4_redo_20 : decode cX4_redo 20 = .ok (.ifCond .le 5, 3) := by decide +kernel
theorem dX4_redo_23 : decode cX4_redo 23 = .ok (.iconst 0, 1) := by decide +kernel
theorem dX4_redo_24 : decode cX4_redo 24 = .ok (.ireturn, 1) := by decide +kernel
theorem dX4_redo_25 : decode cX4_redo 25 = .ok (.aload_n 0, 1) := by decide +kernel
theorem dX4_redo_26 : decode cX4_redo 26 = .ok (.dup, 1) := by decide +kernel
theorem dX4_redo_27 : decode cX4_redo 27 = .ok (.getfield 35, 3) := by decide +kernel
theorem dX4_redo_30 : decode cX4_redo 30 = .ok (.iconst 1, 1) := by decide +kernel
theorem dX4_redo_31 : decode cX4_redo 31 = .ok (.iadd, 1) := by decide +kernel
theorem dX4_redo_32 : decode cX4_redo 32 = .ok (.putfield 35, 3) := by decide +kernel
theorem dX4_redo_35 : decode cX4_redo 35 = .ok (.aload_n 0, 1) := by decide +kernel
theorem dX4_redo_36 : decode cX4_redo 36 = .ok (.dup, 1) := by decide +kernel
theorem dX4_redo_37 : decode cX4_redo 37 = .ok (.getfield 45, 3) := by decide +kernel
theorem dX4_redo_40 : decode cX4_redo 40 = .ok (.iconst 1, 1) := by decide +kernel
theorem dX4_redo_41 : decode cX4_redo 41 = .ok (.isub, 1) := by decide +kernel
theorem dX4_redo_42 : decode cX4_redo 42 = .ok (.putfield 45, 3) := by decide +kernel
theorem dX4_redo_45 : decode cX4_redo 45 = .ok (.aload_n 0, 1) := by decide +kernel
theorem dX4_redo_46 : decode cX4_redo 46 = .ok (.invokevirtual 48, 3) := by decide +kernel
theorem dX4_redo_49 : decode cX4_redo 49 = .ok (.ireturn, 1) := by decide +kernel
set_option maxRecDepth 20000 in
theorem ggX4_pattern_X4_isIn : GoodIn wsX4_pattern wsX4_isIn := goodIn_r _ [8] (by decide +kernel) (by decide +kernel)
set_option maxRecDepth 20000 in
theorem gX4_pattern_X4_isIn : GoodIn wsX4_pattern (va_wsS RX4 52 yX4_isIn wsX4_isIn) := goodIn_app (goodIn_of _ (by decide +kernel)) ggX4_pattern_X4_isIn
theorem dX4_pattern_0 : decode cX4_pattern 0 = .ok (.aload_n 0, 1) := by decide +kernel
theorem dX4_pattern_1 : decode cX4_pattern 1 = .ok (.iload_n 1, 1) := by decide +kernel
theorem dX4_pattern_2 : decode cX4_pattern 2 = .ok (.i2l, 1) := by decide +kernel
theorem dX4_pattern_3 : decode cX4_pattern 3 = .ok (.lconst 0, 1) := by decide +kernel
theorem dX4_pattern_4 : decode cX4_pattern 4 = .ok (.ldc2_w 56, 3) := by decide +kernel
theorem dX4_pattern_7 : decode cX4_pattern 7 = .ok (.invokestatic 52, 3) := by decide +kernel
theorem dX4_pattern_10 : decode cX4_pattern 10 = .ok (.ifCond .ne 7, 3) := by decide +kernel
theorem dX4_pattern_13 : decode cX4_pattern 13 = .ok (.iconst 1, 1) := by decide +kernel
theorem dX4_pattern_14 : decode cX4_pattern 14 = .ok (.goto 17, 3) := by decide +kernel
theorem dX4_pattern_17 : decode cX4_pattern 17 = .ok (.aload_n 0, 1) := by decide +kernel
theorem dX4_pattern_18 : decode cX4_pattern 18 = .ok (.getfield 69, 3) := by decide +kernel
theorem dX4_pattern_21 : decode cX4_pattern 21 = .ok (.bipush 16, 2) := by decide +kernel
theorem dX4_pattern_23 : decode cX4_pattern 23 = .ok (.if_icmp .ne 7, 3) := by decide +kernel
theorem dX4_pattern_26 : decode cX4_pattern 26 = .ok (.iconst 2, 1) := by decide +kernel
theorem dX4_pattern_27 : decode cX4_pattern 27 = .ok (.goto 4, 3) := by decide +kernel
theorem dX4_pattern_30 : decode cX4_pattern 30 = .ok (.iconst 0, 1) := by decide +kernel
theorem dX4_pattern_31 : decode cX4_pattern 31 = .ok (.putfield 31, 3) := by decide +kernel
theorem dX4_pattern_34 : decode cX4_pattern 34 = .ok (.aload_n 0, 1) := by decide +kernel
theorem dX4_pattern_35 : decode cX4_pattern 35 = .ok (.getfield 31, 3) := by decide +kernel
theorem dX4_pattern_38 : decode cX4_pattern 38 = .ok (.ifCond .le 5, 3) := by decide +kernel
theorem dX4_pattern_41 : decode cX4_pattern 41 = .ok (.iconst 0, 1) := by decide +kernel
theorem dX4_pattern_42 : decode cX4_pattern 42 = .ok (.ireturn, 1) := by decide +kernel
theorem dX4_pattern_43 : decode cX4_pattern 43 = .ok (.aload_n 0, 1) := by decide +kernel
theorem dX4_pattern_44 : decode cX4_pattern 44 = .ok (.getfield 19, 3) := by decide +kernel
theorem dX4_pattern_47 : decode cX4_pattern 47 = .ok (.aload_n 0, 1) := by decide +kernel
theorem dX4_pattern_48 : decode cX4_pattern 48 = .ok (.getfield 69, 3) := by decide +kernel
theorem dX4_pattern_51 : decode cX4_pattern 51 = .ok (.iload_n 1, 1) := by decide +kernel
theorem dX4_pattern_52 : decode cX4_pattern 52 = .ok (.iastore, 1) := by decide +kernel
theorem dX4_pattern_53 : decode cX4_pattern 53 = .ok (.aload_n 0, 1) := by decide +kernel
theorem dX4_pattern_54 : decode cX4_pattern 54 = .ok (.dup, 1) := by decide +kernel
theorem dX4_pattern_55 : decode cX4_pattern 55 = .ok (.getfield 69, 3) := by decide +kernel
theorem dX4_pattern_58 : decode cX4_pattern 58 = .ok (.iconst 1, 1) := by decide +kernel
theorem dX4_pattern_59 : decode cX4_pattern 59 = .ok (.iadd, 1) := by decide +kernel
theorem dX4_pattern_60 : decode cX4_pattern 60 = .ok (.putfield 69, 3) := by decide +kernel
theorem dX4_pattern_63 : decode cX4_pattern 63 = .ok (.aload_n 0, 1) := by decide +kernel
theorem dX4_pattern_64 : decode cX4_pattern 64 = .ok (.getfield 69, 3) := by decide +kernel
theorem dX4_pattern_67 : decode cX4_pattern 67 = .ok (.ireturn, 1) := by decide +kernel
theorem dX4_noPattern_0 : decode cX4_noPattern 0 = .ok (.aload_n 0, 1) := by decide +kernel
theorem dX4_noPattern_1 : decode cX4_noPattern 1 = .ok (.iconst 0, 1) := by decide +kernel
theorem dX4_noPattern_2 : decode cX4_noPattern 2 = .ok (.putfield 31, 3) := by decide +kernel
theorem dX4_noPattern_5 : decode cX4_noPattern 5 = .ok (.aload_n 0, 1) := by decide +kernel
theorem dX4_noPattern_6 : decode cX4_noPattern 6 = .ok (.getfield 69, 3) := by decide +kernel
theorem dX4_noPattern_9 : decode cX4_noPattern 9 = .ok (.istore_n 1, 1) := by decide +kernel
theorem dX4_noPattern_10 : decode cX4_noPattern 10 = .ok (.aload_n 0, 1) := by decide +kernel
theorem dX4_noPattern_11 : decode cX4_noPattern 11 = .ok (.iconst 0, 1) := by decide +kernel
theorem dX4_noPattern_12 : decode cX4_noPattern 12 = .ok (.putfield 69, 3) := by decide +kernel
theorem dX4_noPattern_15 : decode cX4_noPattern 15 = .ok (.iload_n 1, 1) := by decide +kernel
theorem dX4_noPattern_16 : decode cX4_noPattern 16 = .ok (.ireturn, 1) := by decide +kernel
set_option maxRecDepth 20000 in
theorem ggX4_occurs_X4_length : GoodIn wsX4_occurs wsX4_length := goodIn_r _ [7, 8, 9, 15, 16, 17, 18, 19, 20, 21, 22, 23, 24, 25, 26, 27] (by decide +kernel) (by decide +kernel)
set_option maxRecDepth 20000 in
theorem gX4_occurs_X4_length : GoodIn wsX4_occurs (wsV RX4 48 RX4 yX4_length wsX4_length) := goodIn_app (goodIn_of _ (by decide +kernel)) ggX4_occurs_X4_length
set_option maxRecDepth 20000 in
theorem ggX4_occurs_X4_charAt : GoodIn wsX4_occurs wsX4_charAt := goodIn_r _ [13, 14, 9, 15, 16, 17, 18, 19, 20, 21, 22, 23, 24, 25, 26, 27] (by decide +kernel) (by decide +kernel)
set_option maxRecDepth 20000 in
theorem gX4_occurs_X4_charAt : GoodIn wsX4_occurs (wsV RX4 41 RX4 yX4_charAt wsX4_charAt) := goodIn_app (goodIn_of _ (by decide +kernel)) ggX4_occurs_X4_charAt
theorem dX4_occurs_0 : decode cX4_occurs 0 = .ok (.iload_n 1, 1) := by decide +kernel
theorem dX4_occurs_1 : decode cX4_occurs 1 = .ok (.aload_n 0, 1) := by decide +kernel
theorem dX4_occurs_2 : decode cX4_occurs 2 = .ok (.getfield 69, 3) := by decide +kernel
theorem dX4_occurs_5 : decode cX4_occurs 5 = .ok (.iadd, 1) := by decide +kernel
theorem dX4_occurs_6 : decode cX4_occurs 6 = .ok (.aload_n 0, 1) := by decide +kernel
theorem dX4_occurs_7 : decode cX4_occurs 7 = .ok (.invokevirtual 48, 3) := by decide +kernel
theorem dX4_occurs_10 : decode cX4_occurs 10 = .ok (.if_icmp .gt 7, 3) := by decide +kernel
theorem dX4_occurs_13 : decode cX4_occurs 13 = .ok (.iconst 1, 1) := by decide +kernel
theorem dX4_occurs_14 : decode cX4_occurs 14 = .ok (.goto 4, 3) := by decide +kernel
theorem dX4_occurs_17 : decode cX4_occurs 17 = .ok (.iconst 0, 1) := by decide +kernel
theorem dX4_occurs_18 : decode cX4_occurs 18 = .ok (.istore_n 2, 1) := by decide +kernel
theorem dX4_occurs_19 : decode cX4_occurs 19 = .ok (.iconst 0, 1) := by decide +kernel
theorem dX4_occurs_20 : decode cX4_occurs 20 = .ok (.istore_n 3, 1) := by decide +kernel
theorem dX4_occurs_21 : decode cX4_occurs 21 = .ok (.iload_n 3, 1) := by decide +kernel
theorem dX4_occurs_22 : decode cX4_occurs 22 = .ok (.aload_n 0, 1) := by decide +kernel
theorem dX4_occurs_23 : decode cX4_occurs 23 = .ok (.getfield 69, 3) := by decide +kernel
theorem dX4_occurs_26 : decode cX4_occurs 26 = .ok (.if_icmp .ge 35, 3) := by decide +kernel
theorem dX4_occurs_29 : decode cX4_occurs 29 = .ok (.iload_n 2, 1) := by decide +kernel
theorem dX4_occurs_30 : decode cX4_occurs 30 = .ok (.ifCond .eq 31, 3) := by decide +kernel
theorem dX4_occurs_33 : decode cX4_occurs 33 = .ok (.aload_n 0, 1) := by decide +kernel
theorem dX4_occurs_34 : decode cX4_occurs 34 = .ok (.iload_n 1, 1) := by decide +kernel
theorem dX4_occurs_35 : decode cX4_occurs 35 = .ok (.iload_n 3, 1) := by decide +kernel
theorem dX4_occurs_36 : decode cX4_occurs 36 = .ok (.iadd, 1) := by decide +kernel
theorem dX4_occurs_37 : decode cX4_occurs 37 = .ok (.invokevirtual 41, 3) := by decide +kernel
theorem dX4_occurs_40 : decode cX4_occurs 40 = .ok (.aload_n 0, 1) := by decide +kernel
theorem dX4_occurs_41 : decode cX4_occurs 41 = .ok (.getfield 19, 3) := by decide +kernel
theorem dX4_occurs_44 : decode cX4_occurs 44 = .ok (.iload_n 3, 1) := by decide +kernel
theorem dX4_occurs_45 : decode cX4_occurs 45 = .ok (.iaload, 1) := by decide +kernel
theorem dX4_occurs_46 : decode cX4_occurs 46 = .ok (.if_icmp .ne 7, 3) := by decide +kernel
theorem dX4_occurs_49 : decode cX4_occurs 49 = .ok (.iconst 1, 1) := by decide +kernel
theorem dX4_occurs_50 : decode cX4_occurs 50 = .ok (.goto 4, 3) := by decide +kernel
theorem dX4_occurs_53 : decode cX4_occurs 53 = .ok (.iconst 0, 1) := by decide +kernel
theorem dX4_occurs_54 : decode cX4_occurs 54 = .ok (.istore_n 2, 1) := by decide +kernel
theorem dX4_occurs_55 : decode cX4_occurs 55 = .ok (.iinc 3 1, 3) := by decide +kernel
theorem dX4_occurs_58 : decode cX4_occurs 58 = .ok (.goto (-37), 3) := by decide +kernel
theorem dX4_occurs_61 : decode cX4_occurs 61 = .ok (.iload_n 2, 1) := by decide +kernel
theorem dX4_occurs_62 : decode cX4_occurs 62 = .ok (.ireturn, 1) := by decide +kernel
set_option maxRecDepth 20000 in
theorem ggX4_find_X4_length : GoodIn wsX4_find wsX4_length := goodIn_r _ [6, 7, 8, 23, 24, 25, 26, 27, 28, 29, 30, 31, 32, 33, 34, 35] (by decide +kernel) (by decide +kernel)
set_option maxRecDepth 20000 in
theorem gX4_find_X4_length : GoodIn wsX4_find (wsV RX4 48 RX4 yX4_length wsX4_length) := goodIn_app (goodIn_of _ (by decide +kernel)) ggX4_find_X4_length
set_option maxRecDepth 20000 in
theorem ggX4_find_X4_isIn : GoodIn wsX4_find wsX4_isIn := goodIn_r _ [11] (by decide +kernel) (by decide +kernel)
set_option maxRecDepth 20000 in
theorem gX4_find_X4_isIn : GoodIn wsX4_find (va_wsS RX4 52 yX4_isIn wsX4_isIn) := goodIn_app (goodIn_of _ (by decide +kernel)) ggX4_find_X4_isIn
set_option maxRecDepth 20000 in
theorem ggX4_find_X4_occurs : GoodIn wsX4_find wsX4_occurs := goodIn_r _ [15, 16, 17, 2, 3, 4, 5, 6, 7, 8, 18, 19, 20, 21, 22, 23, 24, 25, 26, 27, 28, 29, 30, 31, 32, 33, 34, 35] (by decide +kernel) (by decide +kernel)
set_option maxRecDepth 20000 in
theorem gX4_find_X4_occurs : GoodIn wsX4_find (wsV RX4 72 RX4 yX4_occurs wsX4_occurs) := goodIn_app (goodIn_of _ (by decide +kernel)) ggX4_find_X4_occurs
theorem dX4_find_0 : decode cX4_find 0 = .ok (.aload_n 0, 1) := by decide +kernel
theorem dX4_find_1 : decode cX4_find 1 = .ok (.iload_n 1, 1) := by decide +kernel
theorem dX4_find_2 : decode cX4_find 2 = .ok (.i2l, 1) := by decide +kernel
theorem dX4_find_3 : decode cX4_find 3 = .ok (.lconst 0, 1) := by decide +kernel
theorem dX4_find_4 : decode cX4_find 4 = .ok (.aload_n 0, 1) := by decide +kernel
theorem dX4_find_5 : decode cX4_find 5 = .ok (.invokevirtual 48, 3) := by decide +kernel
theorem dX4_find_8 : decode cX4_find 8 = .ok (.i2l, 1) := by decide +kernel
theorem dX4_find_9 : decode cX4_find 9 = .ok (.invokestatic 52, 3) := by decide +kernel
theorem dX4_find_12 : decode cX4_find 12 = .ok (.ifCond .eq 7, 3) := by decide +kernel
theorem dX4_find_15 : decode cX4_find 15 = .ok (.iconst 0, 1) := by decide +kernel
theorem dX4_find_16 : decode cX4_find 16 = .ok (.goto 4, 3) := by decide +kernel
theorem dX4_find_19 : decode cX4_find 19 = .ok (.iconst 1, 1) := by decide +kernel
theorem dX4_find_20 : decode cX4_find 20 = .ok (.putfield 31, 3) := by decide +kernel
theorem dX4_find_23 : decode cX4_find 23 = .ok (.iload_n 1, 1) := by decide +kernel
theorem dX4_find_24 : decode cX4_find 24 = .ok (.istore_n 2, 1) := by decide +kernel
theorem dX4_find_25 : decode cX4_find 25 = .ok (.aload_n 0, 1) := by decide +kernel
theorem dX4_find_26 : decode cX4_find 26 = .ok (.getfield 31, 3) := by decide +kernel
theorem dX4_find_29 : decode cX4_find 29 = .ok (.ifCond .ne 27, 3) := by decide +kernel
theorem dX4_find_32 : decode cX4_find 32 = .ok (.iload_n 2, 1) := by decide +kernel
theorem dX4_find_33 : decode cX4_find 33 = .ok (.aload_n 0, 1) := by decide +kernel
theorem dX4_find_34 : decode cX4_find 34 = .ok (.invokevirtual 48, 3) := by decide +kernel
theorem dX4_find_37 : decode cX4_find 37 = .ok (.if_icmp .gt 19, 3) := by decide +kernel
theorem dX4_find_40 : decode cX4_find 40 = .ok (.aload_n 0, 1) := by decide +kernel
theorem dX4_find_41 : decode cX4_find 41 = .ok (.iload_n 2, 1) := by decide +kernel
theorem dX4_find_42 : decode cX4_find 42 = .ok (.invokevirtual 72, 3) := by decide +kernel
theorem dX4_find_45 : decode cX4_find 45 = .ok (.ifCond .eq 5, 3) := by decide +kernel
theorem dX4_find_48 : decode cX4_find 48 = .ok (.iload_n 2, 1) := by decide +kernel
theorem dX4_find_49 : decode cX4_find 49 = .ok (.ireturn, 1) := by decide +kernel
theorem dX4_find_50 : decode cX4_find 50 = .ok (.iinc 2 1, 3) := by decide +kernel
theorem dX4_find_53 : decode cX4_find 53 = .ok (.goto (-28), 3) := by decide +kernel
theorem dX4_find_56 : decode cX4_find 56 = .ok (.aload_n 0, 1) := by decide +kernel
theorem dX4_find_57 : decode cX4_find 57 = .ok (.getfield 31, 3) := by decide +kernel
theorem dX4_find_60 : decode cX4_find 60 = .ok (.ifCond .le 7, 3) := by decide +kernel
theorem dX4_find_63 : decode cX4_find 63 = .ok (.iconst 0, 1) := by decide +kernel
theorem dX4_find_64 : decode cX4_find 64 = .ok (.goto 4, 3) := by decide +kernel
theorem dX4_find_67 : decode cX4_find 67 = .ok (.iconst (-1), 1) := by decide +kernel
theorem dX4_find_68 : decode cX4_find 68 = .ok (.ireturn, 1) := by decide +kernel
set_option maxRecDepth 20000 in
theorem ggX4_replace_X4_isIn : GoodIn wsX4_replace wsX4_isIn := goodIn_r _ [8] (by decide +kernel) (by decide +kernel)
set_option maxRecDepth 20000 in
theorem gX4_replace_X4_isIn : GoodIn wsX4_replace (va_wsS RX4 52 yX4_isIn wsX4_isIn) := goodIn_app (goodIn_of _ (by decide +kernel)) ggX4_replace_X4_isIn
set_option maxRecDepth 20000 in
theorem ggX4_replace_X4_length : GoodIn wsX4_replace wsX4_length := goodIn_r _ [12, 13, 14, 35, 36, 37, 38, 39, 40, 41, 42, 43, 44, 45, 46, 47] (by decide +kernel) (by decide +kernel)
set_option maxRecDepth 20000 in
theorem gX4_replace_X4_length : GoodIn wsX4_replace (wsV RX4 48 RX4 yX4_length wsX4_length) := goodIn_app (goodIn_of _ (by decide +kernel)) ggX4_replace_X4_length
set_option maxRecDepth 20000 in
theorem ggX4_replace_X4_occurs : GoodIn wsX4_replace wsX4_occurs := goodIn_r _ [18, 2, 19, 9, 10, 11, 7, 12, 13, 14, 20, 21, 22, 23, 24, 35, 36, 37, 38, 39, 40, 41, 42, 43, 44, 45, 46, 47] (by decide +kernel) (by decide +kernel)
set_option maxRecDepth 20000 in
theorem gX4_replace_X4_occurs : GoodIn wsX4_replace (wsV RX4 72 RX4 yX4_occurs wsX4_occurs) := goodIn_app (goodIn_of _ (by decide +kernel)) ggX4_replace_X4_occurs
set_option maxRecDepth 20000 in
theorem ggX4_replace_X4_charAt : GoodIn wsX4_replace wsX4_charAt := goodIn_r _ [23, 24, 14, 35, 36, 37, 38, 39, 40, 41, 42, 43, 44, 45, 46, 47] (by decide +kernel) (by decide +kernel)
set_option maxRecDepth 20000 in
theorem gX4_replace_X4_charAt : GoodIn wsX4_replace (wsV RX4 41 RX4 yX4_charAt wsX4_charAt) := goodIn_app (goodIn_of _ (by decide +kernel)) ggX4_replace_X4_charAt
set_option maxRecDepth 20000 in
theorem ggX4_replace_X4_draftOne : GoodIn wsX4_replace wsX4_draftOne := goodIn_r _ [28, 29, 4, 35, 36, 37, 38, 39, 40, 41, 42, 43, 44, 45, 46, 47] (by decide +kernel) (by decide +kernel)
set_option maxRecDepth 20000 in
theorem gX4_replace_X4_draftOne : GoodIn wsX4_replace (wsV RX4 62 RX4 yX4_draftOne wsX4_draftOne) := goodIn_app (goodIn_of _ (by decide +kernel)) ggX4_replace_X4_draftOne
set_option maxRecDepth 20000 in
theorem ggX4_replace_X4_act : GoodIn wsX4_replace wsX4_act := goodIn_r _ [33, 14, 24, 13, 34, 4, 29, 35, 36, 37, 38, 39, 40, 41, 42, 43, 44, 45, 46, 47] (by decide +kernel) (by decide +kernel)
set_option maxRecDepth 20000 in
theorem gX4_replace_X4_act : GoodIn wsX4_replace (wsV RX4 66 RX4 yX4_act wsX4_act) := goodIn_app (goodIn_of _ (by decide +kernel)) ggX4_replace_X4_act
theorem dX4_replace_0 : decode cX4_replace 0 = .ok (.aload_n 0, 1) := by decide +kernel
theorem dX4_replace_1 : decode cX4_replace 1 = .ok (.iload_n 1, 1) := by decide +kernel
theorem dX4_replace_2 : decode cX4_replace 2 = .ok (.i2l, 1) := by decide +kernel
theorem dX4_replace_3 : decode cX4_replace 3 = .ok (.lconst 0, 1) := by decide +kernel
theorem dX4_replace_4 : decode cX4_replace 4 = .ok (.ldc2_w 56, 3) := by decide +kernel
theorem dX4_replace_7 : decode cX4_replace 7 = .ok (.invokestatic 52, 3) := by decide +kernel
theorem dX4_replace_10 : decode cX4_replace 10 = .ok (.ifCond .ne 7, 3) := by decide +kernel
theorem dX4_replace_13 : decode cX4_replace 13 = .ok (.iconst 1, 1) := by decide +kernel
theorem dX4_replace_14 : decode cX4_replace 14 = .ok (.goto 15, 3) := by decide +kernel
theorem dX4_replace_17 : decode cX4_replace 17 = .ok (.aload_n 0, 1) := by decide +kernel
theorem dX4_replace_18 : decode cX4_replace 18 = .ok (.getfield 69, 3) := by decide +kernel
theorem dX4_replace_21 : decode cX4_replace 21 = .ok (.ifCond .ne 7, 3) := by decide +kernel
theorem dX4_replace_24 : decode cX4_replace 24 = .ok (.iconst 2, 1) := by decide +kernel
theorem dX4_replace_25 : decode cX4_replace 25 = .ok (.goto 4, 3) := by decide +kernel
theorem dX4_replace_28 : decode cX4_replace 28 = .ok (.iconst 0, 1) := by decide +kernel
theorem dX4_replace_29 : decode cX4_replace 29 = .ok (.putfield 31, 3) := by decide +kernel
theorem dX4_replace_32 : decode cX4_replace 32 = .ok (.aload_n 0, 1) := by decide +kernel
theorem dX4_replace_33 : decode cX4_replace 33 = .ok (.getfield 31, 3) := by decide +kernel
theorem dX4_replace_36 : decode cX4_replace 36 = .ok (.ifCond .le 5, 3) := by decide +kernel
theorem dX4_replace_39 : decode cX4_replace 39 = .ok (.iconst 0, 1) := by decide +kernel
theorem dX4_replace_40 : decode cX4_replace 40 = .ok (.ireturn, 1) := by decide +kernel
theorem dX4_replace_41 : decode cX4_replace 41 = .ok (.aload_n 0, 1) := by decide +kernel
theorem dX4_replace_42 : decode cX4_replace 42 = .ok (.iconst 0, 1) := by decide +kernel
theorem dX4_replace_43 : decode cX4_replace 43 = .ok (.putfield 38, 3) := by decide +kernel
theorem dX4_replace_46 : decode cX4_replace 46 = .ok (.iconst 0, 1) := by decide +kernel
theorem dX4_replace_47 : decode cX4_replace 47 = .ok (.istore_n 2, 1) := by decide +kernel
theorem dX4_replace_48 : decode cX4_replace 48 = .ok (.iconst 0, 1) := by decide +kernel
theorem dX4_replace_49 : decode cX4_replace 49 = .ok (.istore_n 3, 1) := by decide +kernel
theorem dX4_replace_50 : decode cX4_replace 50 = .ok (.iload_n 3, 1) := by decide +kernel
theorem dX4_replace_51 : decode cX4_replace 51 = .ok (.aload_n 0, 1) := by decide +kernel
theorem dX4_replace_52 : decode cX4_replace 52 = .ok (.invokevirtual 48, 3) := by decide +kernel
theorem dX4_replace_55 : decode cX4_replace 55 = .ok (.if_icmp .ge 62, 3) := by decide +kernel
theorem dX4_replace_58 : decode cX4_replace 58 = .ok (.aload_n 0, 1) := by decide +kernel
theorem dX4_replace_59 : decode cX4_replace 59 = .ok (.iload_n 3, 1) := by decide +kernel
theorem dX4_replace_60 : decode cX4_replace 60 = .ok (.invokevirtual 72, 3) := by decide +kernel
theorem dX4_replace_63 : decode cX4_replace 63 = .ok (.istore 4, 2) := by decide +kernel
theorem dX4_replace_65 : decode cX4_replace 65 = .ok (.aload_n 0, 1) := by decide +kernel
theorem dX4_replace_66 : decode cX4_replace 66 = .ok (.iload 4, 2) := by decide +kernel
theorem dX4_replace_68 : decode cX4_replace 68 = .ok (.ifCond .eq 7, 3) := by decide +kernel
theorem dX4_replace_71 : decode cX4_replace 71 = .ok (.iload_n 1, 1) := by decide +kernel
theorem dX4_replace_72 : decode cX4_replace 72 = .ok (.goto 8, 3) := by decide +kernel
theorem dX4_replace_75 : decode cX4_replace 75 = .ok (.aload_n 0, 1) := by decide +kernel
theorem dX4_replace_76 : decode cX4_replace 76 = .ok (.iload_n 3, 1) := by decide +kernel
theorem dX4_replace_77 : decode cX4_replace 77 = .ok (.invokevirtual 41, 3) := by decide +kernel
theorem dX4_replace_80 : decode cX4_replace 80 = .ok (.invokevirtual 62, 3) := by decide +kernel
theorem dX4_replace_83 : decode cX4_replace 83 = .ok (.iload 4, 2) := by decide +kernel
theorem dX4_replace_85 : decode cX4_replace 85 = .ok (.ifCond .eq 9, 3) := by decide +kernel
theorem dX4_replace_88 : decode cX4_replace 88 = .ok (.iload_n 2, 1) := by decide +kernel
theorem dX4_replace_89 : decode cX4_replace 89 = .ok (.iconst 1, 1) := by decide +kernel
theorem dX4_replace_90 : decode cX4_replace 90 = .ok (.iadd, 1) := by decide +kernel
theorem dX4_replace_91 : decode cX4_replace 91 = .ok (.goto 4, 3) := by decide +kernel
theorem dX4_replace_94 : decode cX4_replace 94 = .ok (.iload_n 2, 1) := by decide +kernel
theorem dX4_replace_95 : decode cX4_replace 95 = .ok (.istore_n 2, 1) := by decide +kernel
theorem dX4_replace_96 : decode cX4_replace 96 = .ok (.iload 4, 2) := by decide +kernel
theorem dX4_replace_98 : decode cX4_replace 98 = .ok (.ifCond .eq 12, 3) := by decide +kernel
theorem dX4_replace_101 : decode cX4_replace 101 = .ok (.iload_n 3, 1) := by decide +kernel
theorem dX4_replace_102 : decode cX4_replace 102 = .ok (.aload_n 0, 1) := by decide +kernel
theorem dX4_replace_103 : decode cX4_replace 103 = .ok (.getfield 69, 3) := by decide +kernel
theorem dX4_replace_106 : decode cX4_replace 106 = .ok (.iadd, 1) := by decide +kernel
theorem dX4_replace_107 : decode cX4_replace 107 = .ok (.goto 6, 3) := by decide +kernel
theorem dX4_replace_110 : decode cX4_replace 110 = .ok (.iload_n 3, 1) := by decide +kernel
theorem dX4_replace_111 : decode cX4_replace 111 = .ok (.iconst 1, 1) := by decide +kernel
theorem dX4_replace_112 : decode cX4_replace 112 = .ok (.iadd, 1) := by decide +kernel
theorem dX4_replace_113 : decode cX4_replace 113 = .ok (.istore_n 3, 1) := by decide +kernel
theorem dX4_replace_114 : decode cX4_replace 114 = .ok (.goto (-64), 3) := by decide +kernel
theorem dX4_replace_117 : decode cX4_replace 117 = .ok (.aload_n 0, 1) := by decide +kernel
theorem dX4_replace_118 : decode cX4_replace 118 = .ok (.invokevirtual 66, 3) := by decide +kernel
theorem dX4_replace_121 : decode cX4_replace 121 = .ok (.istore 4, 2) := by decide +kernel
theorem dX4_replace_123 : decode cX4_replace 123 = .ok (.iload_n 2, 1) := by decide +kernel
theorem dX4_replace_124 : decode cX4_replace 124 = .ok (.ireturn, 1) := by decide +kernel
set_option maxRecDepth 20000 in
theorem ggX4_snapshot_X4_length : GoodIn wsX4_snapshot wsX4_length := goodIn_r _ [10, 11, 12, 18, 19, 20, 21, 22, 23, 24, 25, 26, 27, 28, 29, 30] (by decide +kernel) (by decide +kernel)
set_option maxRecDepth 20000 in
theorem gX4_snapshot_X4_length : GoodIn wsX4_snapshot (wsV RX4 48 RX4 yX4_length wsX4_length) := goodIn_app (goodIn_of _ (by decide +kernel)) ggX4_snapshot_X4_length
set_option maxRecDepth 20000 in
theorem ggX4_snapshot_X4_charAt : GoodIn wsX4_snapshot wsX4_charAt := goodIn_r _ [16, 17, 12, 18, 19, 20, 21, 22, 23, 24, 25, 26, 27, 28, 29, 30] (by decide +kernel) (by decide +kernel)
set_option maxRecDepth 20000 in
theorem gX4_snapshot_X4_charAt : GoodIn wsX4_snapshot (wsV RX4 41 RX4 yX4_charAt wsX4_charAt) := goodIn_app (goodIn_of _ (by decide +kernel)) ggX4_snapshot_X4_charAt
theorem dX4_snapshot_0 : decode cX4_snapshot 0 = .ok (.aload_n 0, 1) := by decide +kernel
theorem dX4_snapshot_1 : decode cX4_snapshot 1 = .ok (.iconst 0, 1) := by decide +kernel
theorem dX4_snapshot_2 : decode cX4_snapshot 2 = .ok (.putfield 31, 3) := by decide +kernel
theorem dX4_snapshot_5 : decode cX4_snapshot 5 = .ok (.aload_n 0, 1) := by decide +kernel
theorem dX4_snapshot_6 : decode cX4_snapshot 6 = .ok (.iconst 0, 1) := by decide +kernel
theorem dX4_snapshot_7 : decode cX4_snapshot 7 = .ok (.putfield 76, 3) := by decide +kernel
theorem dX4_snapshot_10 : decode cX4_snapshot 10 = .ok (.iconst 0, 1) := by decide +kernel
theorem dX4_snapshot_11 : decode cX4_snapshot 11 = .ok (.istore_n 1, 1) := by decide +kernel
theorem dX4_snapshot_12 : decode cX4_snapshot 12 = .ok (.iload_n 1, 1) := by decide +kernel
theorem dX4_snapshot_13 : decode cX4_snapshot 13 = .ok (.aload_n 0, 1) := by decide +kernel
theorem dX4_snapshot_14 : decode cX4_snapshot 14 = .ok (.invokevirtual 48, 3) := by decide +kernel
theorem dX4_snapshot_17 : decode cX4_snapshot 17 = .ok (.if_icmp .ge 252, 3) := by decide +kernel
theorem dX4_snapshot_20 : decode cX4_snapshot 20 = .ok (.iconst 0, 1) := by decide +kernel
theorem dX4_snapshot_21 : decode cX4_snapshot 21 = .ok (.istore_n 2, 1) := by decide +kernel
theorem dX4_snapshot_22 : decode cX4_snapshot 22 = .ok (.iconst 0, 1) := by decide +kernel
theorem dX4_snapshot_23 : decode cX4_snapshot 23 = .ok (.istore_n 3, 1) := by decide +kernel
theorem dX4_snapshot_24 : decode cX4_snapshot 24 = .ok (.iconst 1, 1) := by decide +kernel
theorem dX4_snapshot_25 : decode cX4_snapshot 25 = .ok (.istore 4, 2) := by decide +kernel
theorem dX4_snapshot_27 : decode cX4_snapshot 27 = .ok (.iload 4, 2) := by decide +kernel
theorem dX4_snapshot_29 : decode cX4_snapshot 29 = .ok (.aload_n 0, 1) := by decide +kernel
theorem dX4_snapshot_30 : decode cX4_snapshot 30 = .ok (.getfield 76, 3) := by decide +kernel
theorem dX4_snapshot_33 : decode cX4_snapshot 33 = .ok (.if_icmp .gt 130, 3) := by decide +kernel
theorem dX4_snapshot_36 : decode cX4_snapshot 36 = .ok (.iload_n 1, 1) := by decide +kernel
theorem dX4_snapshot_37 : decode cX4_snapshot 37 = .ok (.aload_n 0, 1) := by decide +kernel
theorem dX4_snapshot_38 : decode cX4_snapshot 38 = .ok (.getfield 28, 3) := by decide +kernel
theorem dX4_snapshot_41 : decode cX4_snapshot 41 = .ok (.iload 4, 2) := by decide +kernel
theorem dX4_snapshot_43 : decode cX4_snapshot 43 = .ok (.iaload, 1) := by decide +kernel
theorem dX4_snapshot_44 : decode cX4_snapshot 44 = .ok (.iadd, 1) := by decide +kernel
theorem dX4_snapshot_45 : decode cX4_snapshot 45 = .ok (.aload_n 0, 1) := by decide +kernel
theorem dX4_snapshot_46 : decode cX4_snapshot 46 = .ok (.invokevirtual 48, 3) := by decide +kernel
theorem dX4_snapshot_49 : decode cX4_snapshot 49 = .ok (.if_icmp .gt 18, 3) := by decide +kernel
theorem dX4_snapshot_52 : decode cX4_snapshot 52 = .ok (.aload_n 0, 1) := by decide +kernel
theorem dX4_snapshot_53 : decode cX4_snapshot 53 = .ok (.getfield 28, 3) := by decide +kernel
theorem dX4_snapshot_56 : decode cX4_snapshot 56 = .ok (.iload 4, 2) := by decide +kernel
theorem dX4_snapshot_58 : decode cX4_snapshot 58 = .ok (.iaload, 1) := by decide +kernel
theorem dX4_snapshot_59 : decode cX4_snapshot 59 = .ok (.iload_n 3, 1) := by decide +kernel
theorem dX4_snapshot_60 : decode cX4_snapshot 60 = .ok (.if_icmp .le 7, 3) := by decide +kernel
theorem dX4_snapshot_63 : decode cX4_snapshot 63 = .ok (.iconst 1, 1) := by decide +kernel
theorem dX4_snapshot_64 : decode cX4_snapshot 64 = .ok (.goto 4, 3) := by decide +kernel
theorem dX4_snapshot_67 : decode cX4_snapshot 67 = .ok (.iconst 0, 1) := by decide +kernel
theorem dX4_snapshot_68 : decode cX4_snapshot 68 = .ok (.istore 5, 2) := by decide +kernel
theorem dX4_snapshot_70 : decode cX4_snapshot 70 = .ok (.iconst 0, 1) := by decide +kernel
theorem dX4_snapshot_71 : decode cX4_snapshot 71 = .ok (.istore 6, 2) := by decide +kernel
theorem dX4_snapshot_73 : decode cX4_snapshot 73 = .ok (.iload 6, 2) := by decide +kernel
theorem dX4_snapshot_75 : decode cX4_snapshot 75 = .ok (.aload_n 0, 1) := by decide +kernel
theorem dX4_snapshot_76 : decode cX4_snapshot 76 = .ok (.getfield 28, 3) := by decide +kernel
theorem dX4_snapshot_79 : decode cX4_snapshot 79 = .ok (.iload 4, 2) := by decide +kernel
theorem dX4_snapshot_81 : decode cX4_snapshot 81 = .ok (.iaload, 1) := by decide +kernel
theorem dX4_snapshot_82 : decode cX4_snapshot 82 = .ok (.if_icmp .ge 46, 3) := by decide +kernel
theorem dX4_snapshot_85 : decode cX4_snapshot 85 = .ok (.iload 5, 2) := by decide +kernel
theorem dX4_snapshot_87 : decode cX4_snapshot 87 = .ok (.ifCond .eq 41, 3) := by decide +kernel
theorem dX4_snapshot_90 : decode cX4_snapshot 90 = .ok (.aload_n 0, 1) := by decide +kernel
theorem dX4_snapshot_91 : decode cX4_snapshot 91 = .ok (.aload_n 0, 1) := by decide +kernel
theorem dX4_snapshot_92 : decode cX4_snapshot 92 = .ok (.getfield 25, 3) := by decide +kernel
theorem dX4_snapshot_95 : decode cX4_snapshot 95 = .ok (.iload 4, 2) := by decide +kernel
theorem dX4_snapshot_97 : decode cX4_snapshot 97 = .ok (.iaload, 1) := by decide +kernel
theorem dX4_snapshot_98 : decode cX4_snapshot 98 = .ok (.iload 6, 2) := by decide +kernel
theorem dX4_snapshot_100 : decode cX4_snapshot 100 = .ok (.iadd, 1) := by decide +kernel
theorem dX4_snapshot_101 : decode cX4_snapshot 101 = .ok (.invokevirtual 41, 3) := by decide +kernel
theorem dX4_snapshot_104 : decode cX4_snapshot 104 = .ok (.aload_n 0, 1) := by decide +kernel
theorem dX4_snapshot_105 : decode cX4_snapshot 105 = .ok (.iload_n 1, 1) := by decide +kernel
theorem dX4_snapshot_106 : decode cX4_snapshot 106 = .ok (.iload 6, 2) := by decide +kernel
theorem dX4_snapshot_108 : decode cX4_snapshot 108 = .ok (.iadd, 1) := by decide +kernel
theorem dX4_snapshot_109 : decode cX4_snapshot 109 = .ok (.invokevirtual 41, 3) := by decide +kernel
theorem dX4_snapshot_112 : decode cX4_snapshot 112 = .ok (.if_icmp .ne 7, 3) := by decide +kernel
theorem dX4_snapshot_115 : decode cX4_snapshot 115 = .ok (.iconst 1, 1) := by decide +kernel
theorem dX4_snapshot_116 : decode cX4_snapshot 116 = .ok (.goto 4, 3) := by decide +kernel
theorem dX4_snapshot_119 : decode cX4_snapshot 119 = .ok (.iconst 0, 1) := by decide +kernel
theorem dX4_snapshot_120 : decode cX4_snapshot 120 = .ok (.istore 5, 2) := by decide +kernel
theorem dX4_snapshot_122 : decode cX4_snapshot 122 = .ok (.iinc 6 1, 3) := by decide +kernel
theorem dX4_snapshot_125 : decode cX4_snapshot 125 = .ok (.goto (-52), 3) := by decide +kernel
theorem dX4_snapshot_128 : decode cX4_snapshot 128 = .ok (.iload 5, 2) := by decide +kernel
theorem dX4_snapshot_130 : decode cX4_snapshot 130 = .ok (.ifCond .eq 8, 3) := by decide +kernel
theorem dX4_snapshot_133 : decode cX4_snapshot 133 = .ok (.iload 4, 2) := by decide +kernel
theorem dX4_snapshot_135 : decode cX4_snapshot 135 = .ok (.goto 4, 3) := by decide +kernel
theorem dX4_snapshot_138 : decode cX4_snapshot 138 = .ok (.iload_n 2, 1) := by decide +kernel
theorem dX4_snapshot_139 : decode cX4_snapshot 139 = .ok (.istore_n 2, 1) := by decide +kernel
theorem dX4_snapshot_140 : decode cX4_snapshot 140 = .ok (.iload 5, 2) := by decide +kernel
theorem dX4_snapshot_142 : decode cX4_snapshot 142 = .ok (.ifCond .eq 13, 3) := by decide +kernel
theorem dX4_snapshot_145 : decode cX4_snapshot 145 = .ok (.aload_n 0, 1) := by decide +kernel
theorem dX4_snapshot_146 : decode cX4_snapshot 146 = .ok (.getfield 28, 3) := by decide +kernel
theorem dX4_snapshot_149 : decode cX4_snapshot 149 = .ok (.iload 4, 2) := by decide +kernel
theorem dX4_snapshot_151 : decode cX4_snapshot 151 = .ok (.iaload, 1) := by decide +kernel
theorem dX4_snapshot_152 : decode cX4_snapshot 152 = .ok (.goto 4, 3) := by decide +kernel
theorem dX4_snapshot_155 : decode cX4_snapshot 155 = .ok (.iload_n 3, 1) := by decide +kernel
theorem dX4_snapshot_156 : decode cX4_snapshot 156 = .ok (.istore_n 3, 1) := by decide +kernel
theorem dX4_snapshot_157 : decode cX4_snapshot 157 = .ok (.iinc 4 1, 3) := by decide +kernel
theorem dX4_snapshot_160 : decode cX4_snapshot 160 = .ok (.goto (-133), 3) := by decide +kernel
theorem dX4_snapshot_163 : decode cX4_snapshot 163 = .ok (.iload_n 1, 1) := by decide +kernel
theorem dX4_snapshot_164 : decode cX4_snapshot 164 = .ok (.iload_n 3, 1) := by decide +kernel
theorem dX4_snapshot_165 : decode cX4_snapshot 165 = .ok (.iadd, 1) := by decide +kernel
theorem dX4_snapshot_166 : decode cX4_snapshot 166 = .ok (.aload_n 0, 1) := by decide +kernel
theorem dX4_snapshot_167 : decode cX4_snapshot 167 = .ok (.invokevirtual 48, 3) := by decide +kernel
theorem dX4_snapshot_170 : decode cX4_snapshot 170 = .ok (.if_icmp .ne 7, 3) := by decide +kernel
theorem dX4_snapshot_173 : decode cX4_snapshot 173 = .ok (.iconst 1, 1) := by decide +kernel
theorem dX4_snapshot_174 : decode cX4_snapshot 174 = .ok (.goto 4, 3) := by decide +kernel
theorem dX4_snapshot_177 : decode cX4_snapshot 177 = .ok (.iconst 0, 1) := by decide +kernel
theorem dX4_snapshot_178 : decode cX4_snapshot 178 = .ok (.istore 4, 2) := by decide +kernel
theorem dX4_snapshot_180 : decode cX4_snapshot 180 = .ok (.aload_n 0, 1) := by decide +kernel
theorem dX4_snapshot_181 : decode cX4_snapshot 181 = .ok (.getfield 22, 3) := by decide +kernel
theorem dX4_snapshot_184 : decode cX4_snapshot 184 = .ok (.aload_n 0, 1) := by decide +kernel
theorem dX4_snapshot_185 : decode cX4_snapshot 185 = .ok (.getfield 76, 3) := by decide +kernel
theorem dX4_snapshot_188 : decode cX4_snapshot 188 = .ok (.sipush 257, 3) := by decide +kernel
theorem dX4_snapshot_191 : decode cX4_snapshot 191 = .ok (.iload_n 2, 1) := by decide +kernel
theorem dX4_snapshot_192 : decode cX4_snapshot 192 = .ok (.imul, 1) := by decide +kernel
theorem dX4_snapshot_193 : decode cX4_snapshot 193 = .ok (.iload 4, 2) := by decide +kernel
theorem dX4_snapshot_195 : decode cX4_snapshot 195 = .ok (.ifCond .eq 9, 3) := by decide +kernel
theorem dX4_snapshot_198 : decode cX4_snapshot 198 = .ok (.sipush 256, 3) := by decide +kernel
theorem dX4_snapshot_201 : decode cX4_snapshot 201 = .ok (.goto 10, 3) := by decide +kernel
theorem dX4_snapshot_204 : decode cX4_snapshot 204 = .ok (.aload_n 0, 1) := by decide +kernel
theorem dX4_snapshot_205 : decode cX4_snapshot 205 = .ok (.iload_n 1, 1) := by decide +kernel
theorem dX4_snapshot_206 : decode cX4_snapshot 206 = .ok (.iload_n 3, 1) := by decide +kernel
theorem dX4_snapshot_207 : decode cX4_snapshot 207 = .ok (.iadd, 1) := by decide +kernel
theorem dX4_snapshot_208 : decode cX4_snapshot 208 = .ok (.invokevirtual 41, 3) := by decide +kernel
theorem dX4_snapshot_211 : decode cX4_snapshot 211 = .ok (.iadd, 1) := by decide +kernel
theorem dX4_snapshot_212 : decode cX4_snapshot 212 = .ok (.iastore, 1) := by decide +kernel
theorem dX4_snapshot_213 : decode cX4_snapshot 213 = .ok (.aload_n 0, 1) := by decide +kernel
theorem dX4_snapshot_214 : decode cX4_snapshot 214 = .ok (.dup, 1) := by decide +kernel
theorem dX4_snapshot_215 : decode cX4_snapshot 215 = .ok (.getfield 76, 3) := by decide +kernel
theorem dX4_snapshot_218 : decode cX4_snapshot 218 = .ok (.iconst 1, 1) := by decide +kernel
theorem dX4_snapshot_219 : decode cX4_snapshot 219 = .ok (.iadd, 1) := by decide +kernel
theorem dX4_snapshot_220 : decode cX4_snapshot 220 = .ok (.putfield 76, 3) := by decide +kernel
theorem dX4_snapshot_223 : decode cX4_snapshot 223 = .ok (.aload_n 0, 1) := by decide +kernel
theorem dX4_snapshot_224 : decode cX4_snapshot 224 = .ok (.getfield 25, 3) := by decide +kernel
theorem dX4_snapshot_227 : decode cX4_snapshot 227 = .ok (.aload_n 0, 1) := by decide +kernel
theorem dX4_snapshot_228 : decode cX4_snapshot 228 = .ok (.getfield 76, 3) := by decide +kernel
theorem dX4_snapshot_231 : decode cX4_snapshot 231 = .ok (.iload_n 1, 1) := by decide +kernel
theorem dX4_snapshot_232 : decode cX4_snapshot 232 = .ok (.iastore, 1) := by decide +kernel
theorem dX4_snapshot_233 : decode cX4_snapshot 233 = .ok (.aload_n 0, 1) := by decide +kernel
theorem dX4_snapshot_234 : decode cX4_snapshot 234 = .ok (.getfield 28, 3) := by decide +kernel
theorem dX4_snapshot_237 : decode cX4_snapshot 237 = .ok (.aload_n 0, 1) := by decide +kernel
theorem dX4_snapshot_238 : decode cX4_snapshot 238 = .ok (.getfield 76, 3) := by decide +kernel
theorem dX4_snapshot_241 : decode cX4_snapshot 241 = .ok (.iload 4, 2) := by decide +kernel
theorem dX4_snapshot_243 : decode cX4_snapshot 243 = .ok (.ifCond .eq 7, 3) := by decide +kernel
theorem dX4_snapshot_246 : decode cX4_snapshot 246 = .ok (.iload_n 3, 1) := by decide +kernel
theorem dX4_snapshot_247 : decode cX4_snapshot 247 = .ok (.goto 6, 3) := by decide +kernel
theorem dX4_snapshot_250 : decode cX4_snapshot 250 = .ok (.iload_n 3, 1) := by decide +kernel
theorem dX4_snapshot_251 : decode cX4_snapshot 251 = .ok (.iconst 1, 1) := by decide +kernel
theorem dX4_snapshot_252 : decode cX4_snapshot 252 = .ok (.iadd, 1) := by decide +kernel
theorem dX4_snapshot_253 : decode cX4_snapshot 253 = .ok (.iastore, 1) := by decide +kernel
theorem dX4_snapshot_254 : decode cX4_snapshot 254 = .ok (.iload_n 1, 1) := by decide +kernel
theorem dX4_snapshot_255 : decode cX4_snapshot 255 = .ok (.aload_n 0, 1) := by decide +kernel
theorem dX4_snapshot_256 : decode cX4_snapshot 256 = .ok (.getfield 28, 3) := by decide +kernel
theorem dX4_snapshot_259 : decode cX4_snapshot 259 = .ok (.aload_n 0, 1) := by decide +kernel
theorem dX4_snapshot_260 : decode cX4_snapshot 260 = .ok (.getfield 76, 3) := by decide +kernel
theorem dX4_snapshot_263 : decode cX4_snapshot 263 = .ok (.iaload, 1) := by decide +kernel
theorem dX4_snapshot_264 : decode cX4_snapshot 264 = .ok (.iadd, 1) := by decide +kernel
theorem dX4_snapshot_265 : decode cX4_snapshot 265 = .ok (.istore_n 1, 1) := by decide +kernel
theorem dX4_snapshot_266 : decode cX4_snapshot 266 = .ok (.goto (-254), 3) := by decide +kernel
theorem dX4_snapshot_269 : decode cX4_snapshot 269 = .ok (.aload_n 0, 1) := by decide +kernel
theorem dX4_snapshot_270 : decode cX4_snapshot 270 = .ok (.getfield 76, 3) := by decide +kernel
theorem dX4_snapshot_273 : decode cX4_snapshot 273 = .ok (.ireturn, 1) := by decide +kernel
set_option maxRecDepth 20000 in
theorem ggX4_word_X4_isIn : GoodIn wsX4_word wsX4_isIn := goodIn_r _ [7] (by decide +kernel) (by decide +kernel)
set_option maxRecDepth 20000 in
theorem gX4_word_X4_isIn : GoodIn wsX4_word (va_wsS RX4 52 yX4_isIn wsX4_isIn) := goodIn_app (goodIn_of _ (by decide +kernel)) ggX4_word_X4_isIn
theorem dX4_word_0 : decode cX4_word 0 = .ok (.aload_n 0, 1) := by decide +kernel
theorem dX4_word_1 : decode cX4_word 1 = .ok (.iload_n 1, 1) := by decide +kernel
theorem dX4_word_2 : decode cX4_word 2 = .ok (.i2l, 1) := by decide +kernel
theorem dX4_word_3 : decode cX4_word 3 = .ok (.lconst 0, 1) := by decide +kernel
theorem dX4_word_4 : decode cX4_word 4 = .ok (.aload_n 0, 1) := by decide +kernel
theorem dX4_word_5 : decode cX4_word 5 = .ok (.getfield 76, 3) := by decide +kernel
theorem dX4_word_8 : decode cX4_word 8 = .ok (.iconst 1, 1) := by decide +kernel
theorem dX4_word_9 : decode cX4_word 9 = .ok (.isub, 1) := by decide +kernel
theorem dX4_word_10 : decode cX4_word 10 = .ok (.i2l, 1) := by decide +kernel
theorem dX4_word_11 : decode cX4_word 11 = .ok (.invokestatic 52, 3) := by decide +kernel
theorem dX4_word_14 : decode cX4_word 14 = .ok (.ifCond .eq 7, 3) := by decide +kernel
theorem dX4_word_17 : decode cX4_word 17 = .ok (.iconst 0, 1) := by decide +kernel
theorem dX4_word_18 : decode cX4_word 18 = .ok (.goto 4, 3) := by decide +kernel
theorem dX4_word_21 : decode cX4_word 21 = .ok (.iconst 1, 1) := by decide +kernel
theorem dX4_word_22 : decode cX4_word 22 = .ok (.putfield 31, 3) := by decide +kernel
theorem dX4_word_25 : decode cX4_word 25 = .ok (.aload_n 0, 1) := by decide +kernel
theorem dX4_word_26 : decode cX4_word 26 = .ok (.getfield 31, 3) := by decide +kernel
theorem dX4_word_29 : decode cX4_word 29 = .ok (.ifCond .le 7, 3) := by decide +kernel
theorem dX4_word_32 : decode cX4_word 32 = .ok (.iconst 0, 1) := by decide +kernel
theorem dX4_word_33 : decode cX4_word 33 = .ok (.goto 9, 3) := by decide +kernel
theorem dX4_word_36 : decode cX4_word 36 = .ok (.aload_n 0, 1) := by decide +kernel
theorem dX4_word_37 : decode cX4_word 37 = .ok (.getfield 22, 3) := by decide +kernel
theorem dX4_word_40 : decode cX4_word 40 = .ok (.iload_n 1, 1) := by decide +kernel
theorem dX4_word_41 : decode cX4_word 41 = .ok (.iaload, 1) := by decide +kernel
theorem dX4_word_42 : decode cX4_word 42 = .ok (.ireturn, 1) := by decide +kernel
set_option maxRecDepth 20000 in
theorem ggX4_poke_X4_isIn : GoodIn wsX4_poke wsX4_isIn := goodIn_r _ [7] (by decide +kernel) (by decide +kernel)
set_option maxRecDepth 20000 in
theorem gX4_poke_X4_isIn : GoodIn wsX4_poke (va_wsS RX4 52 yX4_isIn wsX4_isIn) := goodIn_app (goodIn_of _ (by decide +kernel)) ggX4_poke_X4_isIn
theorem dX4_poke_0 : decode cX4_poke 0 = .ok (.aload_n 0, 1) := by decide +kernel
theorem dX4_poke_1 : decode cX4_poke 1 = .ok (.iload_n 1, 1) := by decide +kernel
theorem dX4_poke_2 : decode cX4_poke 2 = .ok (.i2l, 1) := by decide +kernel
theorem dX4_poke_3 : decode cX4_poke 3 = .ok (.lconst 0, 1) := by decide +kernel
theorem dX4_poke_4 : decode cX4_poke 4 = .ok (.aload_n 0, 1) := by decide +kernel
theorem dX4_poke_5 : decode cX4_poke 5 = .ok (.getfield 76, 3) := by decide +kernel
theorem dX4_poke_8 : decode cX4_poke 8 = .ok (.iconst 1, 1) := by decide +kernel
theorem dX4_poke_9 : decode cX4_poke 9 = .ok (.isub, 1) := by decide +kernel
theorem dX4_poke_10 : decode cX4_poke 10 = .ok (.i2l, 1) := by decide +kernel
theorem dX4_poke_11 : decode cX4_poke 11 = .ok (.invokestatic 52, 3) := by decide +kernel
theorem dX4_poke_14 : decode cX4_poke 14 = .ok (.ifCond .eq 7, 3) := by decide +kernel
theorem dX4_poke_17 : decode cX4_poke 17 = .ok (.iconst 0, 1) := by decide +kernel
theorem dX4_poke_18 : decode cX4_poke 18 = .ok (.goto 4, 3) := by decide +kernel
theorem dX4_poke_21 : decode cX4_poke 21 = .ok (.iconst 1, 1) := by decide +kernel
theorem dX4_poke_22 : decode cX4_poke 22 = .ok (.putfield 31, 3) := by decide +kernel
theorem dX4_poke_25 : decode cX4_poke 25 = .ok (.aload_n 0, 1) := by decide +kernel
theorem dX4_poke_26 : decode cX4_poke 26 = .ok (.getfield 31, 3) := by decide +kernel
theorem dX4_poke_29 : decode cX4_poke 29 = .ok (.ifCond .le 5, 3) := by decide +kernel
theorem dX4_poke_32 : decode cX4_poke 32 = .ok (.iconst 0, 1) := by decide +kernel
theorem dX4_poke_33 : decode cX4_poke 33 = .ok (.ireturn, 1) := by decide +kernel
theorem dX4_poke_34 : decode cX4_poke 34 = .ok (.aload_n 0, 1) := by decide +kernel
theorem dX4_poke_35 : decode cX4_poke 35 = .ok (.getfield 22, 3) := by decide +kernel
theorem dX4_poke_38 : decode cX4_poke 38 = .ok (.iload_n 1, 1) := by decide +kernel
theorem dX4_poke_39 : decode cX4_poke 39 = .ok (.iaload, 1) := by decide +kernel
theorem dX4_poke_40 : decode cX4_poke 40 = .ok (.istore_n 3, 1) := by decide +kernel
theorem dX4_poke_41 : decode cX4_poke 41 = .ok (.aload_n 0, 1) := by decide +kernel
theorem dX4_poke_42 : decode cX4_poke 42 = .ok (.getfield 22, 3) := by decide +kernel
theorem dX4_poke_45 : decode cX4_poke 45 = .ok (.iload_n 1, 1) := by decide +kernel
theorem dX4_poke_46 : decode cX4_poke 46 = .ok (.iload_n 2, 1) := by decide +kernel
theorem dX4_poke_47 : decode cX4_poke 47 = .ok (.iastore, 1) := by decide +kernel
theorem dX4_poke_48 : decode cX4_poke 48 = .ok (.iload_n 3, 1) := by decide +kernel
theorem dX4_poke_49 : decode cX4_poke 49 = .ok (.ireturn, 1) := by decide +kernel
set_option maxRecDepth 20000 in
theorem ggX4_restore_X4_draftOne : GoodIn wsX4_restore wsX4_draftOne := goodIn_r _ [12, 7, 2, 21, 22, 23, 24, 25, 26, 27, 28, 29, 30, 31, 32, 33] (by decide +kernel) (by decide +kernel)
set_option maxRecDepth 20000 in
theorem gX4_restore_X4_draftOne : GoodIn wsX4_restore (wsV RX4 62 RX4 yX4_draftOne wsX4_draftOne) := goodIn_app (goodIn_of _ (by decide +kernel)) ggX4_restore_X4_draftOne
set_option maxRecDepth 20000 in
theorem ggX4_restore_X4_act : GoodIn wsX4_restore wsX4_act := goodIn_r _ [16, 17, 18, 19, 20, 2, 7, 21, 22, 23, 24, 25, 26, 27, 28, 29, 30, 31, 32, 33] (by decide +kernel) (by decide +kernel)
set_option maxRecDepth 20000 in
theorem gX4_restore_X4_act : GoodIn wsX4_restore (wsV RX4 66 RX4 yX4_act wsX4_act) := goodIn_app (goodIn_of _ (by decide +kernel)) ggX4_restore_X4_act
theorem dX4_restore_0 : decode cX4_restore 0 = .ok (.aload_n 0, 1) := by decide +kernel
theorem dX4_restore_1 : decode cX4_restore 1 = .ok (.iconst 0, 1) := by decide +kernel
theorem dX4_restore_2 : decode cX4_restore 2 = .ok (.putfield 31, 3) := by decide +kernel
theorem dX4_restore_5 : decode cX4_restore 5 = .ok (.aload_n 0, 1) := by decide +kernel
theorem dX4_restore_6 : decode cX4_restore 6 = .ok (.iconst 0, 1) := by decide +kernel
theorem dX4_restore_7 : decode cX4_restore 7 = .ok (.putfield 38, 3) := by decide +kernel
theorem dX4_restore_10 : decode cX4_restore 10 = .ok (.iconst 0, 1) := by decide +kernel
theorem dX4_restore_11 : decode cX4_restore 11 = .ok (.istore_n 1, 1) := by decide +kernel
theorem dX4_restore_12 : decode cX4_restore 12 = .ok (.iload_n 1, 1) := by decide +kernel
theorem dX4_restore_13 : decode cX4_restore 13 = .ok (.aload_n 0, 1) := by decide +kernel
theorem dX4_restore_14 : decode cX4_restore 14 = .ok (.getfield 76, 3) := by decide +kernel
theorem dX4_restore_17 : decode cX4_restore 17 = .ok (.if_icmp .ge 240, 3) := by decide +kernel
theorem dX4_restore_20 : decode cX4_restore 20 = .ok (.aload_n 0, 1) := by decide +kernel
theorem dX4_restore_21 : decode cX4_restore 21 = .ok (.getfield 22, 3) := by decide +kernel
theorem dX4_restore_24 : decode cX4_restore 24 = .ok (.iload_n 1, 1) := by decide +kernel
theorem dX4_restore_25 : decode cX4_restore 25 = .ok (.iaload, 1) := by decide +kernel
theorem dX4_restore_26 : decode cX4_restore 26 = .ok (.ifCond .ge 7, 3) := by decide +kernel
theorem dX4_restore_29 : decode cX4_restore 29 = .ok (.iconst 0, 1) := by decide +kernel
theorem dX4_restore_30 : decode cX4_restore 30 = .ok (.goto 13, 3) := by decide +kernel
theorem dX4_restore_33 : decode cX4_restore 33 = .ok (.aload_n 0, 1) := by decide +kernel
theorem dX4_restore_34 : decode cX4_restore 34 = .ok (.getfield 22, 3) := by decide +kernel
theorem dX4_restore_37 : decode cX4_restore 37 = .ok (.iload_n 1, 1) := by decide +kernel
theorem dX4_restore_38 : decode cX4_restore 38 = .ok (.iaload, 1) := by decide +kernel
theorem dX4_restore_39 : decode cX4_restore 39 = .ok (.sipush 257, 3) := by decide +kernel
theorem dX4_restore_42 : decode cX4_restore 42 = .ok (.idiv, 1) := by decide +kernel
theorem dX4_restore_43 : decode cX4_restore 43 = .ok (.istore_n 2, 1) := by decide +kernel
theorem dX4_restore_44 : decode cX4_restore 44 = .ok (.aload_n 0, 1) := by decide +kernel
theorem dX4_restore_45 : decode cX4_restore 45 = .ok (.getfield 22, 3) := by decide +kernel
theorem dX4_restore_48 : decode cX4_restore 48 = .ok (.iload_n 1, 1) := by decide +kernel
theorem dX4_restore_49 : decode cX4_restore 49 = .ok (.iaload, 1) := by decide +kernel
theorem dX4_restore_50 : decode cX4_restore 50 = .ok (.ifCond .ge 7, 3) := by decide +kernel
theorem dX4_restore_53 : decode cX4_restore 53 = .ok (.iconst 0, 1) := by decide +kernel
theorem dX4_restore_54 : decode cX4_restore 54 = .ok (.goto 13, 3) := by decide +kernel
theorem dX4_restore_57 : decode cX4_restore 57 = .ok (.aload_n 0, 1) := by decide +kernel
theorem dX4_restore_58 : decode cX4_restore 58 = .ok (.getfield 22, 3) := by decide +kernel
theorem dX4_restore_61 : decode cX4_restore 61 = .ok (.iload_n 1, 1) := by decide +kernel
theorem dX4_restore_62 : decode cX4_restore 62 = .ok (.iaload, 1) := by decide +kernel
theorem dX4_restore_63 : decode cX4_restore 63 = .ok (.sipush 257, 3) := by decide +kernel
theorem dX4_restore_66 : decode cX4_restore 66 = .ok (.irem, 1) := by decide +kernel
theorem dX4_restore_67 : decode cX4_restore 67 = .ok (.istore_n 3, 1) := by decide +kernel
theorem dX4_restore_68 : decode cX4_restore 68 = .ok (.aload_n 0, 1) := by decide +kernel
theorem dX4_restore_69 : decode cX4_restore 69 = .ok (.getfield 22, 3) := by decide +kernel
theorem dX4_restore_72 : decode cX4_restore 72 = .ok (.iload_n 1, 1) := by decide +kernel
theorem dX4_restore_73 : decode cX4_restore 73 = .ok (.iaload, 1) := by decide +kernel
theorem dX4_restore_74 : decode cX4_restore 74 = .ok (.ifCond .lt 33, 3) := by decide +kernel
theorem dX4_restore_77 : decode cX4_restore 77 = .ok (.iload_n 2, 1) := by decide +kernel
theorem dX4_restore_78 : decode cX4_restore 78 = .ok (.iload_n 1, 1) := by decide +kernel
theorem dX4_restore_79 : decode cX4_restore 79 = .ok (.if_icmp .gt 28, 3) := by decide +kernel
theorem dX4_restore_82 : decode cX4_restore 82 = .ok (.iload_n 3, 1) := by decide +kernel
theorem dX4_restore_83 : decode cX4_restore 83 = .ok (.sipush 256, 3) := by decide +kernel
theorem dX4_restore_86 : decode cX4_restore 86 = .ok (.if_icmp .lt 17, 3) := by decide +kernel
theorem dX4_restore_89 : decode cX4_restore 89 = .ok (.iload_n 1, 1) := by decide +kernel
theorem dX4_restore_90 : decode cX4_restore 90 = .ok (.aload_n 0, 1) := by decide +kernel
theorem dX4_restore_91 : decode cX4_restore 91 = .ok (.getfield 76, 3) := by decide +kernel
theorem dX4_restore_94 : decode cX4_restore 94 = .ok (.iconst 1, 1) := by decide +kernel
theorem dX4_restore_95 : decode cX4_restore 95 = .ok (.isub, 1) := by decide +kernel
theorem dX4_restore_96 : decode cX4_restore 96 = .ok (.if_icmp .ne 11, 3) := by decide +kernel
theorem dX4_restore_99 : decode cX4_restore 99 = .ok (.iload_n 2, 1) := by decide +kernel
theorem dX4_restore_100 : decode cX4_restore 100 = .ok (.ifCond .le 7, 3) := by decide +kernel
theorem dX4_restore_103 : decode cX4_restore 103 = .ok (.iconst 1, 1) := by decide +kernel
theorem dX4_restore_104 : decode cX4_restore 104 = .ok (.goto 4, 3) := by decide +kernel
theorem dX4_restore_107 : decode cX4_restore 107 = .ok (.iconst 0, 1) := by decide +kernel
theorem dX4_restore_108 : decode cX4_restore 108 = .ok (.istore 4, 2) := by decide +kernel
theorem dX4_restore_110 : decode cX4_restore 110 = .ok (.iload 4, 2) := by decide +kernel
theorem dX4_restore_112 : decode cX4_restore 112 = .ok (.ifCond .eq 7, 3) := by decide +kernel
theorem dX4_restore_115 : decode cX4_restore 115 = .ok (.iload_n 2, 1) := by decide +kernel
theorem dX4_restore_116 : decode cX4_restore 116 = .ok (.ifCond .ne 7, 3) := by decide +kernel
theorem dX4_restore_119 : decode cX4_restore 119 = .ok (.iconst 0, 1) := by decide +kernel
theorem dX4_restore_120 : decode cX4_restore 120 = .ok (.goto 9, 3) := by decide +kernel
theorem dX4_restore_123 : decode cX4_restore 123 = .ok (.aload_n 0, 1) := by decide +kernel
theorem dX4_restore_124 : decode cX4_restore 124 = .ok (.getfield 28, 3) := by decide +kernel
theorem dX4_restore_127 : decode cX4_restore 127 = .ok (.iload_n 2, 1) := by decide +kernel
theorem dX4_restore_128 : decode cX4_restore 128 = .ok (.iaload, 1) := by decide +kernel
theorem dX4_restore_129 : decode cX4_restore 129 = .ok (.istore 5, 2) := by decide +kernel
theorem dX4_restore_131 : decode cX4_restore 131 = .ok (.iload_n 3, 1) := by decide +kernel
theorem dX4_restore_132 : decode cX4_restore 132 = .ok (.sipush 256, 3) := by decide +kernel
theorem dX4_restore_135 : decode cX4_restore 135 = .ok (.if_icmp .ge 10, 3) := by decide +kernel
theorem dX4_restore_138 : decode cX4_restore 138 = .ok (.iload 5, 2) := by decide +kernel
theorem dX4_restore_140 : decode cX4_restore 140 = .ok (.iconst 1, 1) := by decide +kernel
theorem dX4_restore_141 : decode cX4_restore 141 = .ok (.iadd, 1) := by decide +kernel
theorem dX4_restore_142 : decode cX4_restore 142 = .ok (.goto 5, 3) := by decide +kernel
theorem dX4_restore_145 : decode cX4_restore 145 = .ok (.iload 5, 2) := by decide +kernel
theorem dX4_restore_147 : decode cX4_restore 147 = .ok (.istore 6, 2) := by decide +kernel
theorem dX4_restore_149 : decode cX4_restore 149 = .ok (.iload 4, 2) := by decide +kernel
theorem dX4_restore_151 : decode cX4_restore 151 = .ok (.ifCond .eq 16, 3) := by decide +kernel
theorem dX4_restore_154 : decode cX4_restore 154 = .ok (.aload_n 0, 1) := by decide +kernel
theorem dX4_restore_155 : decode cX4_restore 155 = .ok (.getfield 38, 3) := by decide +kernel
theorem dX4_restore_158 : decode cX4_restore 158 = .ok (.iload 6, 2) := by decide +kernel
theorem dX4_restore_160 : decode cX4_restore 160 = .ok (.iadd, 1) := by decide +kernel
theorem dX4_restore_161 : decode cX4_restore 161 = .ok (.sipush 240, 3) := by decide +kernel
theorem dX4_restore_164 : decode cX4_restore 164 = .ok (.if_icmp .le 7, 3) := by decide +kernel
theorem dX4_restore_167 : decode cX4_restore 167 = .ok (.iconst (-1), 1) := by decide +kernel
theorem dX4_restore_168 : decode cX4_restore 168 = .ok (.iload_n 1, 1) := by decide +kernel
theorem dX4_restore_169 : decode cX4_restore 169 = .ok (.isub, 1) := by decide +kernel
theorem dX4_restore_170 : decode cX4_restore 170 = .ok (.ireturn, 1) := by decide +kernel
theorem dX4_restore_171 : decode cX4_restore 171 = .ok (.aload_n 0, 1) := by decide +kernel
theorem dX4_restore_172 : decode cX4_restore 172 = .ok (.getfield 25, 3) := by decide +kernel
theorem dX4_restore_175 : decode cX4_restore 175 = .ok (.iload_n 1, 1) := by decide +kernel
theorem dX4_restore_176 : decode cX4_restore 176 = .ok (.iconst 1, 1) := by decide +kernel
theorem dX4_restore_177 : decode cX4_restore 177 = .ok (.iadd, 1) := by decide +kernel
theorem dX4_restore_178 : decode cX4_restore 178 = .ok (.aload_n 0, 1) := by decide +kernel
theorem dX4_restore_179 : decode cX4_restore 179 = .ok (.getfield 38, 3) := by decide +kernel
theorem dX4_restore_182 : decode cX4_restore 182 = .ok (.iastore, 1) := by decide +kernel
theorem dX4_restore_183 : decode cX4_restore 183 = .ok (.aload_n 0, 1) := by decide +kernel
theorem dX4_restore_184 : decode cX4_restore 184 = .ok (.getfield 28, 3) := by decide +kernel
theorem dX4_restore_187 : decode cX4_restore 187 = .ok (.iload_n 1, 1) := by decide +kernel
theorem dX4_restore_188 : decode cX4_restore 188 = .ok (.iconst 1, 1) := by decide +kernel
theorem dX4_restore_189 : decode cX4_restore 189 = .ok (.iadd, 1) := by decide +kernel
theorem dX4_restore_190 : decode cX4_restore 190 = .ok (.iload 6, 2) := by decide +kernel
theorem dX4_restore_192 : decode cX4_restore 192 = .ok (.iastore, 1) := by decide +kernel
theorem dX4_restore_193 : decode cX4_restore 193 = .ok (.iload_n 2, 1) := by decide +kernel
theorem dX4_restore_194 : decode cX4_restore 194 = .ok (.ifCond .ne 7, 3) := by decide +kernel
theorem dX4_restore_197 : decode cX4_restore 197 = .ok (.iconst 0, 1) := by decide +kernel
theorem dX4_restore_198 : decode cX4_restore 198 = .ok (.goto 9, 3) := by decide +kernel
theorem dX4_restore_201 : decode cX4_restore 201 = .ok (.aload_n 0, 1) := by decide +kernel
theorem dX4_restore_202 : decode cX4_restore 202 = .ok (.getfield 25, 3) := by decide +kernel
theorem dX4_restore_205 : decode cX4_restore 205 = .ok (.iload_n 2, 1) := by decide +kernel
theorem dX4_restore_206 : decode cX4_restore 206 = .ok (.iaload, 1) := by decide +kernel
theorem dX4_restore_207 : decode cX4_restore 207 = .ok (.istore 7, 2) := by decide +kernel
theorem dX4_restore_209 : decode cX4_restore 209 = .ok (.iconst 0, 1) := by decide +kernel
theorem dX4_restore_210 : decode cX4_restore 210 = .ok (.istore 8, 2) := by decide +kernel
theorem dX4_restore_212 : decode cX4_restore 212 = .ok (.iload 8, 2) := by decide +kernel
theorem dX4_restore_214 : decode cX4_restore 214 = .ok (.iload 5, 2) := by decide +kernel
theorem dX4_restore_216 : decode cX4_restore 216 = .ok (.if_icmp .ge 23, 3) := by decide +kernel
theorem dX4_restore_219 : decode cX4_restore 219 = .ok (.aload_n 0, 1) := by decide +kernel
theorem dX4_restore_220 : decode cX4_restore 220 = .ok (.aload_n 0, 1) := by decide +kernel
theorem dX4_restore_221 : decode cX4_restore 221 = .ok (.getfield 16, 3) := by decide +kernel
theorem dX4_restore_224 : decode cX4_restore 224 = .ok (.iload 7, 2) := by decide +kernel
theorem dX4_restore_226 : decode cX4_restore 226 = .ok (.iload 8, 2) := by decide +kernel
theorem dX4_restore_228 : decode cX4_restore 228 = .ok (.iadd, 1) := by decide +kernel
theorem dX4_restore_229 : decode cX4_restore 229 = .ok (.iaload, 1) := by decide +kernel
theorem dX4_restore_230 : decode cX4_restore 230 = .ok (.invokevirtual 62, 3) := by decide +kernel
theorem dX4_restore_233 : decode cX4_restore 233 = .ok (.iinc 8 1, 3) := by decide +kernel
theorem dX4_restore_236 : decode cX4_restore 236 = .ok (.goto (-24), 3) := by decide +kernel
theorem dX4_restore_239 : decode cX4_restore 239 = .ok (.iload_n 3, 1) := by decide +kernel
theorem dX4_restore_240 : decode cX4_restore 240 = .ok (.sipush 256, 3) := by decide +kernel
theorem dX4_restore_243 : decode cX4_restore 243 = .ok (.if_icmp .ge 8, 3) := by decide +kernel
theorem dX4_restore_246 : decode cX4_restore 246 = .ok (.aload_n 0, 1) := by decide +kernel
theorem dX4_restore_247 : decode cX4_restore 247 = .ok (.iload_n 3, 1) := by decide +kernel
theorem dX4_restore_248 : decode cX4_restore 248 = .ok (.invokevirtual 62, 3) := by decide +kernel
theorem dX4_restore_251 : decode cX4_restore 251 = .ok (.iinc 1 1, 3) := by decide +kernel
theorem dX4_restore_254 : decode cX4_restore 254 = .ok (.goto (-242), 3) := by decide +kernel
theorem dX4_restore_257 : decode cX4_restore 257 = .ok (.aload_n 0, 1) := by decide +kernel
theorem dX4_restore_258 : decode cX4_restore 258 = .ok (.invokevirtual 66, 3) := by decide +kernel
theorem dX4_restore_261 : decode cX4_restore 261 = .ok (.ireturn, 1) := by decide +kernel
set_option maxRecDepth 20000 in
theorem ggX4_told_X4_length : GoodIn wsX4_told wsX4_length := goodIn_r _ [10, 11, 2, 17, 18, 19, 20, 21, 22, 23, 24, 25, 26, 27, 28, 29] (by decide +kernel) (by decide +kernel)
set_option maxRecDepth 20000 in
theorem gX4_told_X4_length : GoodIn wsX4_told (wsV RX4 48 RX4 yX4_length wsX4_length) := goodIn_app (goodIn_of _ (by decide +kernel)) ggX4_told_X4_length
set_option maxRecDepth 20000 in
theorem ggX4_told_X4_charAt : GoodIn wsX4_told wsX4_charAt := goodIn_r _ [15, 16, 2, 17, 18, 19, 20, 21, 22, 23, 24, 25, 26, 27, 28, 29] (by decide +kernel) (by decide +kernel)
set_option maxRecDepth 20000 in
theorem gX4_told_X4_charAt : GoodIn wsX4_told (wsV RX4 41 RX4 yX4_charAt wsX4_charAt) := goodIn_app (goodIn_of _ (by decide +kernel)) ggX4_told_X4_charAt
theorem dX4_told_0 : decode cX4_told 0 = .ok (.aload_n 0, 1) := by decide +kernel
theorem dX4_told_1 : decode cX4_told 1 = .ok (.iconst 0, 1) := by decide +kernel
theorem dX4_told_2 : decode cX4_told 2 = .ok (.putfield 31, 3) := by decide +kernel
theorem dX4_told_5 : decode cX4_told 5 = .ok (.iload_n 1, 1) := by decide +kernel
theorem dX4_told_6 : decode cX4_told 6 = .ok (.iconst 5, 1) := by decide +kernel
theorem dX4_told_7 : decode cX4_told 7 = .ok (.if_icmp .ne 80, 3) := by decide +kernel
theorem dX4_told_10 : decode cX4_told 10 = .ok (.iconst 0, 1) := by decide +kernel
theorem dX4_told_11 : decode cX4_told 11 = .ok (.istore_n 2, 1) := by decide +kernel
theorem dX4_told_12 : decode cX4_told 12 = .ok (.iconst 0, 1) := by decide +kernel
theorem dX4_told_13 : decode cX4_told 13 = .ok (.istore_n 3, 1) := by decide +kernel
theorem dX4_told_14 : decode cX4_told 14 = .ok (.iload_n 3, 1) := by decide +kernel
theorem dX4_told_15 : decode cX4_told 15 = .ok (.aload_n 0, 1) := by decide +kernel
theorem dX4_told_16 : decode cX4_told 16 = .ok (.invokevirtual 48, 3) := by decide +kernel
theorem dX4_told_19 : decode cX4_told 19 = .ok (.if_icmp .ge 66, 3) := by decide +kernel
theorem dX4_told_22 : decode cX4_told 22 = .ok (.iconst 1, 1) := by decide +kernel
theorem dX4_told_23 : decode cX4_told 23 = .ok (.istore 4, 2) := by decide +kernel
theorem dX4_told_25 : decode cX4_told 25 = .ok (.iconst 0, 1) := by decide +kernel
theorem dX4_told_26 : decode cX4_told 26 = .ok (.istore 5, 2) := by decide +kernel
theorem dX4_told_28 : decode cX4_told 28 = .ok (.iload 5, 2) := by decide +kernel
theorem dX4_told_30 : decode cX4_told 30 = .ok (.iload_n 3, 1) := by decide +kernel
theorem dX4_told_31 : decode cX4_told 31 = .ok (.if_icmp .ge 35, 3) := by decide +kernel
theorem dX4_told_34 : decode cX4_told 34 = .ok (.iload 4, 2) := by decide +kernel
theorem dX4_told_36 : decode cX4_told 36 = .ok (.ifCond .eq 21, 3) := by decide +kernel
theorem dX4_told_39 : decode cX4_told 39 = .ok (.aload_n 0, 1) := by decide +kernel
theorem dX4_told_40 : decode cX4_told 40 = .ok (.iload 5, 2) := by decide +kernel
theorem dX4_told_42 : decode cX4_told 42 = .ok (.invokevirtual 41, 3) := by decide +kernel
theorem dX4_told_45 : decode cX4_told 45 = .ok (.aload_n 0, 1) := by decide +kernel
theorem dX4_told_46 : decode cX4_told 46 = .ok (.iload_n 3, 1) := by decide +kernel
theorem dX4_told_47 : decode cX4_told 47 = .ok (.invokevirtual 41, 3) := by decide +kernel
theorem dX4_told_50 : decode cX4_told 50 = .ok (.if_icmp .eq 7, 3) := by decide +kernel
theorem dX4_told_53 : decode cX4_told 53 = .ok (.iconst 1, 1) := by decide +kernel
theorem dX4_told_54 : decode cX4_told 54 = .ok (.goto 4, 3) := by decide +kernel
theorem dX4_told_57 : decode cX4_told 57 = .ok (.iconst 0, 1) := by decide +kernel
theorem dX4_told_58 : decode cX4_told 58 = .ok (.istore 4, 2) := by decide +kernel
theorem dX4_told_60 : decode cX4_told 60 = .ok (.iinc 5 1, 3) := by decide +kernel
theorem dX4_told_63 : decode cX4_told 63 = .ok (.goto (-35), 3) := by decide +kernel
theorem dX4_told_66 : decode cX4_told 66 = .ok (.iload 4, 2) := by decide +kernel
theorem dX4_told_68 : decode cX4_told 68 = .ok (.ifCond .eq 9, 3) := by decide +kernel
theorem dX4_told_71 : decode cX4_told 71 = .ok (.iload_n 2, 1) := by decide +kernel
theorem dX4_told_72 : decode cX4_told 72 = .ok (.iconst 1, 1) := by decide +kernel
theorem dX4_told_73 : decode cX4_told 73 = .ok (.iadd, 1) := by decide +kernel
theorem dX4_told_74 : decode cX4_told 74 = .ok (.goto 4, 3) := by decide +kernel
theorem dX4_told_77 : decode cX4_told 77 = .ok (.iload_n 2, 1) := by decide +kernel
theorem dX4_told_78 : decode cX4_told 78 = .ok (.istore_n 2, 1) := by decide +kernel
theorem dX4_told_79 : decode cX4_told 79 = .ok (.iinc 3 1, 3) := by decide +kernel
theorem dX4_told_82 : decode cX4_told 82 = .ok (.goto (-68), 3) := by decide +kernel
theorem dX4_told_85 : decode cX4_told 85 = .ok (.iload_n 2, 1) := by decide +kernel
theorem dX4_told_86 : decode cX4_told 86 = .ok (.ireturn, 1) := by decide +kernel
theorem dX4_told_87 : decode cX4_told 87 = .ok (.iload_n 1, 1) := by decide +kernel
theorem dX4_told_88 : decode cX4_told 88 = .ok (.ifCond .ne 10, 3) := by decide +kernel
theorem dX4_told_91 : decode cX4_told 91 = .ok (.aload_n 0, 1) := by decide +kernel
theorem dX4_told_92 : decode cX4_told 92 = .ok (.invokevirtual 48, 3) := by decide +kernel
theorem dX4_told_95 : decode cX4_told 95 = .ok (.goto 52, 3) := by decide +kernel
theorem dX4_told_98 : decode cX4_told 98 = .ok (.iload_n 1, 1) := by decide +kernel
theorem dX4_told_99 : decode cX4_told 99 = .ok (.iconst 1, 1) := by decide +kernel
theorem dX4_told_100 : decode cX4_told 100 = .ok (.if_icmp .ne 10, 3) := by decide +kernel
theorem dX4_told_103 : decode cX4_told 103 = .ok (.aload_n 0, 1) := by decide +kernel
theorem dX4_told_104 : decode cX4_told 104 = .ok (.getfield 35, 3) := by decide +kernel
theorem dX4_told_107 : decode cX4_told 107 = .ok (.goto 40, 3) := by decide +kernel
theorem dX4_told_110 : decode cX4_told 110 = .ok (.iload_n 1, 1) := by decide +kernel
theorem dX4_told_111 : decode cX4_told 111 = .ok (.iconst 2, 1) := by decide +kernel
theorem dX4_told_112 : decode cX4_told 112 = .ok (.if_icmp .ne 10, 3) := by decide +kernel
theorem dX4_told_115 : decode cX4_told 115 = .ok (.aload_n 0, 1) := by decide +kernel
theorem dX4_told_116 : decode cX4_told 116 = .ok (.getfield 45, 3) := by decide +kernel
theorem dX4_told_119 : decode cX4_told 119 = .ok (.goto 28, 3) := by decide +kernel
theorem dX4_told_122 : decode cX4_told 122 = .ok (.iload_n 1, 1) := by decide +kernel
theorem dX4_told_123 : decode cX4_told 123 = .ok (.iconst 3, 1) := by decide +kernel
theorem dX4_told_124 : decode cX4_told 124 = .ok (.if_icmp .ne 10, 3) := by decide +kernel
theorem dX4_told_127 : decode cX4_told 127 = .ok (.aload_n 0, 1) := by decide +kernel
theorem dX4_told_128 : decode cX4_told 128 = .ok (.getfield 69, 3) := by decide +kernel
theorem dX4_told_131 : decode cX4_told 131 = .ok (.goto 16, 3) := by decide +kernel
theorem dX4_told_134 : decode cX4_told 134 = .ok (.iload_n 1, 1) := by decide +kernel
theorem dX4_told_135 : decode cX4_told 135 = .ok (.iconst 4, 1) := by decide +kernel
theorem dX4_told_136 : decode cX4_told 136 = .ok (.if_icmp .ne 10, 3) := by decide +kernel
theorem dX4_told_139 : decode cX4_told 139 = .ok (.aload_n 0, 1) := by decide +kernel
theorem dX4_told_140 : decode cX4_told 140 = .ok (.getfield 76, 3) := by decide +kernel
theorem dX4_told_143 : decode cX4_told 143 = .ok (.goto 4, 3) := by decide +kernel
theorem dX4_told_146 : decode cX4_told 146 = .ok (.iconst (-1), 1) := by decide +kernel
theorem dX4_told_147 : decode cX4_told 147 = .ok (.ireturn, 1) := by decide +kernel
theorem dX4_clear_0 : decode cX4_clear 0 = .ok (.aload_n 0, 1) := by decide +kernel
theorem dX4_clear_1 : decode cX4_clear 1 = .ok (.iconst 0, 1) := by decide +kernel
theorem dX4_clear_2 : decode cX4_clear 2 = .ok (.putfield 31, 3) := by decide +kernel
theorem dX4_clear_5 : decode cX4_clear 5 = .ok (.aload_n 0, 1) := by decide +kernel
theorem dX4_clear_6 : decode cX4_clear 6 = .ok (.iconst 0, 1) := by decide +kernel
theorem dX4_clear_7 : decode cX4_clear 7 = .ok (.putfield 35, 3) := by decide +kernel
theorem dX4_clear_10 : decode cX4_clear 10 = .ok (.aload_n 0, 1) := by decide +kernel
theorem dX4_clear_11 : decode cX4_clear 11 = .ok (.iconst 0, 1) := by decide +kernel
theorem dX4_clear_12 : decode cX4_clear 12 = .ok (.putfield 45, 3) := by decide +kernel
theorem dX4_clear_15 : decode cX4_clear 15 = .ok (.aload_n 0, 1) := by decide +kernel
theorem dX4_clear_16 : decode cX4_clear 16 = .ok (.getfield 13, 3) := by decide +kernel
theorem dX4_clear_19 : decode cX4_clear 19 = .ok (.iconst 0, 1) := by decide +kernel
theorem dX4_clear_20 : decode cX4_clear 20 = .ok (.iconst 0, 1) := by decide +kernel
theorem dX4_clear_21 : decode cX4_clear 21 = .ok (.iastore, 1) := by decide +kernel
theorem dX4_clear_22 : decode cX4_clear 22 = .ok (.aload_n 0, 1) := by decide +kernel
theorem dX4_clear_23 : decode cX4_clear 23 = .ok (.iconst 0, 1) := by decide +kernel
theorem dX4_clear_24 : decode cX4_clear 24 = .ok (.putfield 69, 3) := by decide +kernel
theorem dX4_clear_27 : decode cX4_clear 27 = .ok (.aload_n 0, 1) := by decide +kernel
theorem dX4_clear_28 : decode cX4_clear 28 = .ok (.iconst 0, 1) := by decide +kernel
theorem dX4_clear_29 : decode cX4_clear 29 = .ok (.putfield 76, 3) := by decide +kernel
theorem dX4_clear_32 : decode cX4_clear 32 = .ok (.return_, 1) := by decide +kernel

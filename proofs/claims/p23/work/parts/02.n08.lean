set_option maxRecDepth 20000 in
theorem ggX6_init_X4_init : GoodIn wsX6_init wsX4_init := goodIn_r _ [10, 11, 2, 3, 12, 13, 14] (by decide +kernel) (by decide +kernel)
set_option maxRecDepth 20000 in
theorem gX6_init_X4_init : GoodIn wsX6_init (wsX4_init) := ggX6_init_X4_init
theorem dX6_init_0 : decode cX6_init 0 = .ok (.aload_n 0, 1) := by decide +kernel
theorem dX6_init_1 : decode cX6_init 1 = .ok (.invokespecial 3, 3) := by decide +kernel
theorem dX6_init_4 : decode cX6_init 4 = .ok (.aload_n 0, 1) := by decide +kernel
theorem dX6_init_5 : decode cX6_init 5 = .ok (.new 9, 3) := by decide +kernel
theorem dX6_init_8 : decode cX6_init 8 = .ok (.dup, 1) := by decide +kernel
theorem dX6_init_9 : decode cX6_init 9 = .ok (.sipush 1920, 3) := by decide +kernel
theorem dX6_init_12 : decode cX6_init 12 = .ok (.invokespecial 13, 3) := by decide +kernel
theorem dX6_init_15 : decode cX6_init 15 = .ok (.putfield 16, 3) := by decide +kernel
theorem dX6_init_18 : decode cX6_init 18 = .ok (.return_, 1) := by decide +kernel
set_option maxRecDepth 20000 in
theorem ggX6_begin_X3_size : GoodIn wsX6_begin wsX3_size := goodIn_r _ [6, 7, 27, 28, 29, 30, 31, 32, 33, 34] (by decide +kernel) (by decide +kernel)
set_option maxRecDepth 20000 in
theorem gX6_begin_X3_size : GoodIn wsX6_begin (wsV RX6 20 RX3 yX3_size wsX3_size) := goodIn_app (goodIn_of _ (by decide +kernel)) ggX6_begin_X3_size
set_option maxRecDepth 20000 in
theorem ggX6_begin_X1_bitOf : GoodIn wsX6_begin wsX1_bitOf := goodIn_r _ [12, 13, 14, 15, 16, 17, 18, 19, 35, 36, 37] (by decide +kernel) (by decide +kernel)
set_option maxRecDepth 20000 in
theorem gX6_begin_X1_bitOf : GoodIn wsX6_begin (wsV RX6 26 RX1 yX1_bitOf wsX1_bitOf) := goodIn_app (goodIn_of _ (by decide +kernel)) ggX6_begin_X1_bitOf
set_option maxRecDepth 20000 in
theorem ggX6_begin_X4_put : GoodIn wsX6_begin wsX4_put := goodIn_r _ [24, 25, 38] (by decide +kernel) (by decide +kernel)
set_option maxRecDepth 20000 in
theorem gX6_begin_X4_put : GoodIn wsX6_begin (wsV RX6 32 RX4 yX4_put wsX4_put) := goodIn_app (goodIn_of _ (by decide +kernel)) ggX6_begin_X4_put
theorem dX6_begin_0 : decode cX6_begin 0 = .ok (.iconst 0, 1) := by decide +kernel
theorem dX6_begin_1 : decode cX6_begin 1 = .ok (.istore_n 3, 1) := by decide +kernel
theorem dX6_begin_2 : decode cX6_begin 2 = .ok (.iload_n 3, 1) := by decide +kernel
theorem dX6_begin_3 : decode cX6_begin 3 = .ok (.aload_n 1, 1) := by decide +kernel
theorem dX6_begin_4 : decode cX6_begin 4 = .ok (.invokevirtual 20, 3) := by decide +kernel
theorem dX6_begin_7 : decode cX6_begin 7 = .ok (.if_icmp .ge 44, 3) := by decide +kernel
theorem dX6_begin_10 : decode cX6_begin 10 = .ok (.iconst 0, 1) := by decide +kernel
theorem dX6_begin_11 : decode cX6_begin 11 = .ok (.istore 4, 2) := by decide +kernel
theorem dX6_begin_13 : decode cX6_begin 13 = .ok (.iload 4, 2) := by decide +kernel
theorem dX6_begin_15 : decode cX6_begin 15 = .ok (.bipush 16, 2) := by decide +kernel
theorem dX6_begin_17 : decode cX6_begin 17 = .ok (.if_icmp .ge 28, 3) := by decide +kernel
theorem dX6_begin_20 : decode cX6_begin 20 = .ok (.aload_n 0, 1) := by decide +kernel
theorem dX6_begin_21 : decode cX6_begin 21 = .ok (.getfield 16, 3) := by decide +kernel
theorem dX6_begin_24 : decode cX6_begin 24 = .ok (.iload_n 3, 1) := by decide +kernel
theorem dX6_begin_25 : decode cX6_begin 25 = .ok (.bipush 16, 2) := by decide +kernel
theorem dX6_begin_27 : decode cX6_begin 27 = .ok (.imul, 1) := by decide +kernel
theorem dX6_begin_28 : decode cX6_begin 28 = .ok (.iload 4, 2) := by decide +kernel
theorem dX6_begin_30 : decode cX6_begin 30 = .ok (.iadd, 1) := by decide +kernel
theorem dX6_begin_31 : decode cX6_begin 31 = .ok (.aload_n 2, 1) := by decide +kernel
theorem dX6_begin_32 : decode cX6_begin 32 = .ok (.iload_n 3, 1) := by decide +kernel
theorem dX6_begin_33 : decode cX6_begin 33 = .ok (.invokevirtual 26, 3) := by decide +kernel
theorem dX6_begin_36 : decode cX6_begin 36 = .ok (.invokevirtual 32, 3) := by decide +kernel
theorem dX6_begin_39 : decode cX6_begin 39 = .ok (.iinc 4 1, 3) := by decide +kernel
theorem dX6_begin_42 : decode cX6_begin 42 = .ok (.goto (-29), 3) := by decide +kernel
theorem dX6_begin_45 : decode cX6_begin 45 = .ok (.iinc 3 1, 3) := by decide +kernel
theorem dX6_begin_48 : decode cX6_begin 48 = .ok (.goto (-46), 3) := by decide +kernel
theorem dX6_begin_51 : decode cX6_begin 51 = .ok (.return_, 1) := by decide +kernel
set_option maxRecDepth 20000 in
theorem ggX6_run_X3_size : GoodIn wsX6_run wsX3_size := goodIn_r _ [6, 7, 90, 91, 92, 93, 94, 95, 96, 97] (by decide +kernel) (by decide +kernel)
set_option maxRecDepth 20000 in
theorem gX6_run_X3_size : GoodIn wsX6_run (wsV RX6 20 RX3 yX3_size wsX3_size) := goodIn_app (goodIn_of _ (by decide +kernel)) ggX6_run_X3_size
set_option maxRecDepth 20000 in
theorem ggX6_run_X3_isInput : GoodIn wsX6_run wsX3_isInput := goodIn_r _ [11, 12, 13, 14, 15, 16, 17, 18, 90, 91, 92, 93, 94, 95, 96, 97, 98] (by decide +kernel) (by decide +kernel)
set_option maxRecDepth 20000 in
theorem gX6_run_X3_isInput : GoodIn wsX6_run (wsV RX6 36 RX3 yX3_isInput wsX3_isInput) := goodIn_app (goodIn_of _ (by decide +kernel)) ggX6_run_X3_isInput
set_option maxRecDepth 20000 in
theorem ggX6_run_X3_stuckBitOf : GoodIn wsX6_run wsX3_stuckBitOf := goodIn_r _ [22, 23, 13, 14, 15, 16, 17, 18, 90, 91, 92, 93, 94, 95, 96, 97, 98] (by decide +kernel) (by decide +kernel)
set_option maxRecDepth 20000 in
theorem gX6_run_X3_stuckBitOf : GoodIn wsX6_run (wsV RX6 40 RX3 yX3_stuckBitOf wsX3_stuckBitOf) := goodIn_app (goodIn_of _ (by decide +kernel)) ggX6_run_X3_stuckBitOf
set_option maxRecDepth 20000 in
theorem ggX6_run_X3_kindOf : GoodIn wsX6_run wsX3_kindOf := goodIn_r _ [27, 12, 13, 14, 15, 16, 17, 18, 90, 91, 92, 93, 94, 95, 96, 97, 98] (by decide +kernel) (by decide +kernel)
set_option maxRecDepth 20000 in
theorem gX6_run_X3_kindOf : GoodIn wsX6_run (wsV RX6 43 RX3 yX3_kindOf wsX3_kindOf) := goodIn_app (goodIn_of _ (by decide +kernel)) ggX6_run_X3_kindOf
set_option maxRecDepth 20000 in
theorem ggX6_run_X4_at : GoodIn wsX6_run wsX4_at := goodIn_r _ [17, 18, 98] (by decide +kernel) (by decide +kernel)
set_option maxRecDepth 20000 in
theorem gX6_run_X4_at : GoodIn wsX6_run (wsV RX6 46 RX4 yX4_at wsX4_at) := goodIn_app (goodIn_of _ (by decide +kernel)) ggX6_run_X4_at
set_option maxRecDepth 20000 in
theorem ggX6_run_X1_bitOf : GoodIn wsX6_run wsX1_bitOf := goodIn_r _ [33, 34, 35, 36, 37, 38, 39, 40, 99, 100, 101] (by decide +kernel) (by decide +kernel)
set_option maxRecDepth 20000 in
theorem gX6_run_X1_bitOf : GoodIn wsX6_run (wsV RX6 26 RX1 yX1_bitOf wsX1_bitOf) := goodIn_app (goodIn_of _ (by decide +kernel)) ggX6_run_X1_bitOf
set_option maxRecDepth 20000 in
theorem ggX6_run_X6_followingBit : GoodIn wsX6_run wsX6_followingBit := goodIn_r _ [45, 46, 47, 48, 5, 49, 50, 13, 14, 15, 16, 17, 18, 51, 52, 53, 44, 54, 1, 55, 56, 57, 28, 58, 59, 60, 61, 62, 24, 25, 26, 27, 12, 63, 64, 65, 66, 90, 91, 92, 93, 94, 95, 96, 97, 98, 89] (by decide +kernel) (by decide +kernel)
set_option maxRecDepth 20000 in
theorem gX6_run_X6_followingBit : GoodIn wsX6_run (wsV RX6 49 RX6 yX6_followingBit wsX6_followingBit) := goodIn_app (goodIn_of _ (by decide +kernel)) ggX6_run_X6_followingBit
set_option maxRecDepth 20000 in
theorem ggX6_run_X6_bitAt : GoodIn wsX6_run wsX6_bitAt := goodIn_r _ [54, 1, 55, 56, 44, 57, 28, 14, 15, 16, 17, 18, 89, 98] (by decide +kernel) (by decide +kernel)
set_option maxRecDepth 20000 in
theorem gX6_run_X6_bitAt : GoodIn wsX6_run (wsV RX6 53 RX6 yX6_bitAt wsX6_bitAt) := goodIn_app (goodIn_of _ (by decide +kernel)) ggX6_run_X6_bitAt
set_option maxRecDepth 20000 in
theorem ggX6_run_X3_isOut : GoodIn wsX6_run wsX3_isOut := goodIn_r _ [70, 71, 72, 13, 14, 15, 16, 17, 18, 90, 91, 92, 93, 94, 95, 96, 97, 98] (by decide +kernel) (by decide +kernel)
set_option maxRecDepth 20000 in
theorem gX6_run_X3_isOut : GoodIn wsX6_run (wsV RX6 57 RX3 yX3_isOut wsX3_isOut) := goodIn_app (goodIn_of _ (by decide +kernel)) ggX6_run_X3_isOut
set_option maxRecDepth 20000 in
theorem ggX6_run_X5_add : GoodIn wsX6_run wsX5_add := goodIn_r _ [77, 78, 79, 80, 81, 82, 83, 84, 102, 103, 104] (by decide +kernel) (by decide +kernel)
set_option maxRecDepth 20000 in
theorem gX6_run_X5_add : GoodIn wsX6_run (wsV RX6 60 RX5 yX5_add wsX5_add) := goodIn_app (goodIn_of _ (by decide +kernel)) ggX6_run_X5_add
set_option maxRecDepth 20000 in
theorem ggX6_run_X6_cellOf : GoodIn wsX6_run wsX6_cellOf := goodIn_r _ [57] (by decide +kernel) (by decide +kernel)
set_option maxRecDepth 20000 in
theorem gX6_run_X6_cellOf : GoodIn wsX6_run (va_wsS RX6 66 yX6_cellOf wsX6_cellOf) := goodIn_app (goodIn_of _ (by decide +kernel)) ggX6_run_X6_cellOf
set_option maxRecDepth 20000 in
theorem ggX6_run_X4_put : GoodIn wsX6_run wsX4_put := goodIn_r _ [88, 18, 98] (by decide +kernel) (by decide +kernel)
set_option maxRecDepth 20000 in
theorem gX6_run_X4_put : GoodIn wsX6_run (wsV RX6 32 RX4 yX4_put wsX4_put) := goodIn_app (goodIn_of _ (by decide +kernel)) ggX6_run_X4_put
theorem dX6_run_0 : decode cX6_run 0 = .ok (.iconst 0, 1) := by decide +kernel
theorem dX6_run_1 : decode cX6_run 1 = .ok (.istore 6, 2) := by decide +kernel
theorem dX6_run_3 : decode cX6_run 3 = .ok (.iload 6, 2) := by decide +kernel
theorem dX6_run_5 : decode cX6_run 5 = .ok (.aload_n 1, 1) := by decide +kernel
theorem dX6_run_6 : decode cX6_run 6 = .ok (.invokevirtual 20, 3) := by decide +kernel
theorem dX6_run_9 : decode cX6_run 9 = .ok (.if_icmp .ge 129, 3) := by decide +kernel
theorem dX6_run_12 : decode cX6_run 12 = .ok (.aload_n 1, 1) := by decide +kernel
theorem dX6_run_13 : decode cX6_run 13 = .ok (.iload 6, 2) := by decide +kernel
theorem dX6_run_15 : decode cX6_run 15 = .ok (.invokevirtual 36, 3) := by decide +kernel
theorem dX6_run_18 : decode cX6_run 18 = .ok (.ifCond .ne 13, 3) := by decide +kernel
theorem dX6_run_21 : decode cX6_run 21 = .ok (.aload_n 1, 1) := by decide +kernel
theorem dX6_run_22 : decode cX6_run 22 = .ok (.iload 6, 2) := by decide +kernel
theorem dX6_run_24 : decode cX6_run 24 = .ok (.invokevirtual 40, 3) := by decide +kernel
theorem dX6_run_27 : decode cX6_run 27 = .ok (.iconst (-1), 1) := by decide +kernel
theorem dX6_run_28 : decode cX6_run 28 = .ok (.if_icmp .eq 7, 3) := by decide +kernel
theorem dX6_run_31 : decode cX6_run 31 = .ok (.iconst 1, 1) := by decide +kernel
theorem dX6_run_32 : decode cX6_run 32 = .ok (.goto 4, 3) := by decide +kernel
theorem dX6_run_35 : decode cX6_run 35 = .ok (.iconst 0, 1) := by decide +kernel
theorem dX6_run_36 : decode cX6_run 36 = .ok (.istore 7, 2) := by decide +kernel
theorem dX6_run_38 : decode cX6_run 38 = .ok (.iload 4, 2) := by decide +kernel
theorem dX6_run_40 : decode cX6_run 40 = .ok (.aload_n 2, 1) := by decide +kernel
theorem dX6_run_41 : decode cX6_run 41 = .ok (.aload_n 1, 1) := by decide +kernel
theorem dX6_run_42 : decode cX6_run 42 = .ok (.iload 6, 2) := by decide +kernel
theorem dX6_run_44 : decode cX6_run 44 = .ok (.invokevirtual 43, 3) := by decide +kernel
theorem dX6_run_47 : decode cX6_run 47 = .ok (.invokevirtual 46, 3) := by decide +kernel
theorem dX6_run_50 : decode cX6_run 50 = .ok (.isub, 1) := by decide +kernel
theorem dX6_run_51 : decode cX6_run 51 = .ok (.istore 8, 2) := by decide +kernel
theorem dX6_run_53 : decode cX6_run 53 = .ok (.iload 7, 2) := by decide +kernel
theorem dX6_run_55 : decode cX6_run 55 = .ok (.ifCond .eq 12, 3) := by decide +kernel
theorem dX6_run_58 : decode cX6_run 58 = .ok (.aload_n 3, 1) := by decide +kernel
theorem dX6_run_59 : decode cX6_run 59 = .ok (.iload 6, 2) := by decide +kernel
theorem dX6_run_61 : decode cX6_run 61 = .ok (.invokevirtual 26, 3) := by decide +kernel
theorem dX6_run_64 : decode cX6_run 64 = .ok (.goto 12, 3) := by decide +kernel
theorem dX6_run_67 : decode cX6_run 67 = .ok (.aload_n 0, 1) := by decide +kernel
theorem dX6_run_68 : decode cX6_run 68 = .ok (.aload_n 1, 1) := by decide +kernel
theorem dX6_run_69 : decode cX6_run 69 = .ok (.iload 6, 2) := by decide +kernel
theorem dX6_run_71 : decode cX6_run 71 = .ok (.iload 8, 2) := by decide +kernel
theorem dX6_run_73 : decode cX6_run 73 = .ok (.invokevirtual 49, 3) := by decide +kernel
theorem dX6_run_76 : decode cX6_run 76 = .ok (.istore 9, 2) := by decide +kernel
theorem dX6_run_78 : decode cX6_run 78 = .ok (.iload 9, 2) := by decide +kernel
theorem dX6_run_80 : decode cX6_run 80 = .ok (.aload_n 0, 1) := by decide +kernel
theorem dX6_run_81 : decode cX6_run 81 = .ok (.iload 6, 2) := by decide +kernel
theorem dX6_run_83 : decode cX6_run 83 = .ok (.iload 4, 2) := by decide +kernel
theorem dX6_run_85 : decode cX6_run 85 = .ok (.iconst 1, 1) := by decide +kernel
theorem dX6_run_86 : decode cX6_run 86 = .ok (.isub, 1) := by decide +kernel
theorem dX6_run_87 : decode cX6_run 87 = .ok (.invokevirtual 53, 3) := by decide +kernel
theorem dX6_run_90 : decode cX6_run 90 = .ok (.if_icmp .eq 26, 3) := by decide +kernel
theorem dX6_run_93 : decode cX6_run 93 = .ok (.aload_n 1, 1) := by decide +kernel
theorem dX6_run_94 : decode cX6_run 94 = .ok (.iload 6, 2) := by decide +kernel
theorem dX6_run_96 : decode cX6_run 96 = .ok (.invokevirtual 36, 3) := by decide +kernel
theorem dX6_run_99 : decode cX6_run 99 = .ok (.ifCond .ne 17, 3) := by decide +kernel
theorem dX6_run_102 : decode cX6_run 102 = .ok (.aload 5, 2) := by decide +kernel
theorem dX6_run_104 : decode cX6_run 104 = .ok (.iconst 1, 1) := by decide +kernel
theorem dX6_run_105 : decode cX6_run 105 = .ok (.iload 4, 2) := by decide +kernel
theorem dX6_run_107 : decode cX6_run 107 = .ok (.aload_n 1, 1) := by decide +kernel
theorem dX6_run_108 : decode cX6_run 108 = .ok (.iload 6, 2) := by decide +kernel
theorem dX6_run_110 : decode cX6_run 110 = .ok (.invokevirtual 57, 3) := by decide +kernel
theorem dX6_run_113 : decode cX6_run 113 = .ok (.invokevirtual 60, 3) := by decide +kernel
theorem dX6_run_116 : decode cX6_run 116 = .ok (.aload_n 0, 1) := by decide +kernel
theorem dX6_run_117 : decode cX6_run 117 = .ok (.getfield 16, 3) := by decide +kernel
theorem dX6_run_120 : decode cX6_run 120 = .ok (.iload 6, 2) := by decide +kernel
theorem dX6_run_122 : decode cX6_run 122 = .ok (.iload 4, 2) := by decide +kernel
theorem dX6_run_124 : decode cX6_run 124 = .ok (.invokestatic 66, 3) := by decide +kernel
theorem dX6_run_127 : decode cX6_run 127 = .ok (.iload 9, 2) := by decide +kernel
theorem dX6_run_129 : decode cX6_run 129 = .ok (.invokevirtual 32, 3) := by decide +kernel
theorem dX6_run_132 : decode cX6_run 132 = .ok (.iinc 6 1, 3) := by decide +kernel
theorem dX6_run_135 : decode cX6_run 135 = .ok (.goto (-132), 3) := by decide +kernel
theorem dX6_run_138 : decode cX6_run 138 = .ok (.return_, 1) := by decide +kernel
set_option maxRecDepth 20000 in
theorem ggX6_followingBit_X3_firstOf : GoodIn wsX6_followingBit wsX3_firstOf := goodIn_r _ [5, 6, 7, 8, 9, 10, 11, 12, 37, 38, 39, 40, 41, 42, 43, 44, 45] (by decide +kernel) (by decide +kernel)
set_option maxRecDepth 20000 in
theorem gX6_followingBit_X3_firstOf : GoodIn wsX6_followingBit (wsV RX6 69 RX3 yX3_firstOf wsX3_firstOf) := goodIn_app (goodIn_of _ (by decide +kernel)) ggX6_followingBit_X3_firstOf
set_option maxRecDepth 20000 in
theorem ggX6_followingBit_X6_bitAt : GoodIn wsX6_followingBit wsX6_bitAt := goodIn_r _ [17, 18, 19, 20, 16, 21, 22, 8, 9, 10, 11, 12, 46, 45] (by decide +kernel) (by decide +kernel)
set_option maxRecDepth 20000 in
theorem gX6_followingBit_X6_bitAt : GoodIn wsX6_followingBit (wsV RX6 53 RX6 yX6_bitAt wsX6_bitAt) := goodIn_app (goodIn_of _ (by decide +kernel)) ggX6_followingBit_X6_bitAt
set_option maxRecDepth 20000 in
theorem ggX6_followingBit_X3_secondOf : GoodIn wsX6_followingBit wsX3_secondOf := goodIn_r _ [26, 27, 7, 8, 9, 10, 11, 12, 37, 38, 39, 40, 41, 42, 43, 44, 45] (by decide +kernel) (by decide +kernel)
set_option maxRecDepth 20000 in
theorem gX6_followingBit_X3_secondOf : GoodIn wsX6_followingBit (wsV RX6 72 RX3 yX3_secondOf wsX3_secondOf) := goodIn_app (goodIn_of _ (by decide +kernel)) ggX6_followingBit_X3_secondOf
set_option maxRecDepth 20000 in
theorem ggX6_followingBit_X3_kindOf : GoodIn wsX6_followingBit wsX3_kindOf := goodIn_r _ [31, 32, 7, 8, 9, 10, 11, 12, 37, 38, 39, 40, 41, 42, 43, 44, 45] (by decide +kernel) (by decide +kernel)
set_option maxRecDepth 20000 in
theorem gX6_followingBit_X3_kindOf : GoodIn wsX6_followingBit (wsV RX6 43 RX3 yX3_kindOf wsX3_kindOf) := goodIn_app (goodIn_of _ (by decide +kernel)) ggX6_followingBit_X3_kindOf
set_option maxRecDepth 20000 in
theorem ggX6_followingBit_X11_join : GoodIn wsX6_followingBit wsX11_join := goodIn_r _ [35, 36] (by decide +kernel) (by decide +kernel)
set_option maxRecDepth 20000 in
theorem gX6_followingBit_X11_join_n75 : GoodIn wsX6_followingBit (wsX11_join) := ggX6_followingBit_X11_join
theorem dX6_followingBit_0 : decode cX6_followingBit 0 = .ok (.aload_n 0, 1) := by decide +kernel
theorem dX6_followingBit_1 : decode cX6_followingBit 1 = .ok (.aload_n 1, 1) := by decide +kernel
theorem dX6_followingBit_2 : decode cX6_followingBit 2 = .ok (.iload_n 2, 1) := by decide +kernel
theorem dX6_followingBit_3 : decode cX6_followingBit 3 = .ok (.invokevirtual 69, 3) := by decide +kernel
theorem dX6_followingBit_6 : decode cX6_followingBit 6 = .ok (.iload_n 3, 1) := by decide +kernel
theorem dX6_followingBit_7 : decode cX6_followingBit 7 = .ok (.invokevirtual 53, 3) := by decide +kernel
theorem dX6_followingBit_10 : decode cX6_followingBit 10 = .ok (.i2l, 1) := by decide +kernel
theorem dX6_followingBit_11 : decode cX6_followingBit 11 = .ok (.lstore 4, 2) := by decide +kernel
theorem dX6_followingBit_13 : decode cX6_followingBit 13 = .ok (.aload_n 0, 1) := by decide +kernel
theorem dX6_followingBit_14 : decode cX6_followingBit 14 = .ok (.aload_n 1, 1) := by decide +kernel
theorem dX6_followingBit_15 : decode cX6_followingBit 15 = .ok (.iload_n 2, 1) := by decide +kernel
theorem dX6_followingBit_16 : decode cX6_followingBit 16 = .ok (.invokevirtual 72, 3) := by decide +kernel
theorem dX6_followingBit_19 : decode cX6_followingBit 19 = .ok (.iload_n 3, 1) := by decide +kernel
theorem dX6_followingBit_20 : decode cX6_followingBit 20 = .ok (.invokevirtual 53, 3) := by decide +kernel
theorem dX6_followingBit_23 : decode cX6_followingBit 23 = .ok (.i2l, 1) := by decide +kernel
theorem dX6_followingBit_24 : decode cX6_followingBit 24 = .ok (.lstore 6, 2) := by decide +kernel
theorem dX6_followingBit_26 : decode cX6_followingBit 26 = .ok (.aload_n 1, 1) := by decide +kernel
theorem dX6_followingBit_27 : decode cX6_followingBit 27 = .ok (.iload_n 2, 1) := by decide +kernel
theorem dX6_followingBit_28 : decode cX6_followingBit 28 = .ok (.invokevirtual 43, 3) := by decide +kernel
theorem dX6_followingBit_31 : decode cX6_followingBit 31 = .ok (.lload 4, 2) := by decide +kernel
theorem dX6_followingBit_33 : decode cX6_followingBit 33 = .ok (.lload 6, 2) := by decide +kernel
theorem dX6_followingBit_35 : decode cX6_followingBit 35 = .ok (.invokestatic 75, 3) := by decide +kernel
theorem dX6_followingBit_38 : decode cX6_followingBit 38 = .ok (.lconst 1, 1) := by decide +kernel
theorem dX6_followingBit_39 : decode cX6_followingBit 39 = .ok (.land, 1) := by decide +kernel
theorem dX6_followingBit_40 : decode cX6_followingBit 40 = .ok (.l2i, 1) := by decide +kernel
theorem dX6_followingBit_41 : decode cX6_followingBit 41 = .ok (.ireturn, 1) := by decide +kernel
set_option maxRecDepth 20000 in
theorem ggX6_bitAt_X6_cellOf : GoodIn wsX6_bitAt wsX6_cellOf := goodIn_r _ [5] (by decide +kernel) (by decide +kernel)
set_option maxRecDepth 20000 in
theorem gX6_bitAt_X6_cellOf : GoodIn wsX6_bitAt (va_wsS RX6 66 yX6_cellOf wsX6_cellOf) := goodIn_app (goodIn_of _ (by decide +kernel)) ggX6_bitAt_X6_cellOf
set_option maxRecDepth 20000 in
theorem ggX6_bitAt_X4_at : GoodIn wsX6_bitAt wsX4_at := goodIn_r _ [10, 11, 13] (by decide +kernel) (by decide +kernel)
set_option maxRecDepth 20000 in
theorem gX6_bitAt_X4_at : GoodIn wsX6_bitAt (wsV RX6 46 RX4 yX4_at wsX4_at) := goodIn_app (goodIn_of _ (by decide +kernel)) ggX6_bitAt_X4_at
theorem dX6_bitAt_0 : decode cX6_bitAt 0 = .ok (.aload_n 0, 1) := by decide +kernel
theorem dX6_bitAt_1 : decode cX6_bitAt 1 = .ok (.getfield 16, 3) := by decide +kernel
theorem dX6_bitAt_4 : decode cX6_bitAt 4 = .ok (.iload_n 1, 1) := by decide +kernel
theorem dX6_bitAt_5 : decode cX6_bitAt 5 = .ok (.iload_n 2, 1) := by decide +kernel
theorem dX6_bitAt_6 : decode cX6_bitAt 6 = .ok (.invokestatic 66, 3) := by decide +kernel
theorem dX6_bitAt_9 : decode cX6_bitAt 9 = .ok (.invokevirtual 46, 3) := by decide +kernel
theorem dX6_bitAt_12 : decode cX6_bitAt 12 = .ok (.ireturn, 1) := by decide +kernel
theorem dX6_cellOf_0 : decode cX6_cellOf 0 = .ok (.iload_n 0, 1) := by decide +kernel
theorem dX6_cellOf_1 : decode cX6_cellOf 1 = .ok (.bipush 16, 2) := by decide +kernel
theorem dX6_cellOf_3 : decode cX6_cellOf 3 = .ok (.imul, 1) := by decide +kernel
theorem dX6_cellOf_4 : decode cX6_cellOf 4 = .ok (.iload_n 1, 1) := by decide +kernel
theorem dX6_cellOf_5 : decode cX6_cellOf 5 = .ok (.bipush 15, 2) := by decide +kernel
theorem dX6_cellOf_7 : decode cX6_cellOf 7 = .ok (.iand, 1) := by decide +kernel
theorem dX6_cellOf_8 : decode cX6_cellOf 8 = .ok (.iadd, 1) := by decide +kernel
theorem dX6_cellOf_9 : decode cX6_cellOf 9 = .ok (.ireturn, 1) := by decide +kernel
theorem dX0_init_0 : decode cX0_init 0 = .ok (.aload_n 0, 1) := by decide +kernel
theorem dX0_init_1 : decode cX0_init 1 = .ok (.invokespecial 3, 3) := by decide +kernel
theorem dX0_init_4 : decode cX0_init 4 = .ok (.return_, 1) := by decide +kernel
set_option maxRecDepth 20000 in
theorem ggX0_hold_X0_begin : GoodIn wsX0_hold wsX0_begin := goodIn_r _ [12, 13, 14, 15, 16, 17, 116, 117, 118, 119, 120] (by decide +kernel) (by decide +kernel)
set_option maxRecDepth 20000 in
theorem gX0_hold_X0_begin : GoodIn wsX0_hold (wsV RX0 9 RX0 yX0_begin wsX0_begin) := goodIn_app (goodIn_of _ (by decide +kernel)) ggX0_hold_X0_begin
set_option maxRecDepth 20000 in
theorem ggX0_hold_X3_inputCount : GoodIn wsX0_hold wsX3_inputCount := goodIn_r _ [22, 23, 121, 122, 123, 124, 125, 126, 127, 128] (by decide +kernel) (by decide +kernel)
set_option maxRecDepth 20000 in
theorem gX0_hold_X3_inputCount : GoodIn wsX0_hold (wsV RX0 14 RX3 yX3_inputCount wsX3_inputCount) := goodIn_app (goodIn_of _ (by decide +kernel)) ggX0_hold_X3_inputCount
set_option maxRecDepth 20000 in
theorem ggX0_hold_X1_fillFrom : GoodIn wsX0_hold wsX1_fillFrom := goodIn_r _ [28, 29, 30, 31, 27, 32, 33, 34, 35, 36, 37, 21, 38, 39, 40, 41, 42, 43, 44, 45, 46, 47, 48, 49, 50, 51, 52, 53, 54, 55, 56, 57, 58, 59, 60, 61, 62, 63, 64, 65, 66, 67, 68, 69, 70, 71, 72, 73, 74, 75, 76, 77, 78, 79, 80, 81, 82, 83, 84, 85, 86, 87, 88, 89, 90, 91, 92, 93, 94, 95, 96, 97, 98, 99, 100, 101, 129, 130, 121, 122, 123, 124, 125, 126, 127, 128, 131, 132] (by decide +kernel) (by decide +kernel)
set_option maxRecDepth 20000 in
theorem gX0_hold_X1_fillFrom : GoodIn wsX0_hold (wsV RX0 20 RX1 yX1_fillFrom wsX1_fillFrom) := goodIn_app (goodIn_of _ (by decide +kernel)) ggX0_hold_X1_fillFrom
set_option maxRecDepth 20000 in
theorem ggX0_hold_X1_valueInLane : GoodIn wsX0_hold wsX1_valueInLane := goodIn_r _ [105, 34, 92, 93, 94, 21, 95, 96, 68, 69, 70, 71, 72, 73, 129, 130, 121, 122, 123, 124, 125, 126, 127, 128, 132] (by decide +kernel) (by decide +kernel)
set_option maxRecDepth 20000 in
theorem gX0_hold_X1_valueInLane : GoodIn wsX0_hold (wsV RX0 32 RX1 yX1_valueInLane wsX1_valueInLane) := goodIn_app (goodIn_of _ (by decide +kernel)) ggX0_hold_X1_valueInLane
set_option maxRecDepth 20000 in
theorem ggX0_hold_X0_dueFor : GoodIn wsX0_hold wsX0_dueFor := goodIn_r _ [108] (by decide +kernel) (by decide +kernel)
set_option maxRecDepth 20000 in
theorem gX0_hold_X0_dueFor : GoodIn wsX0_hold (va_wsS RX0 36 yX0_dueFor wsX0_dueFor) := goodIn_app (goodIn_of _ (by decide +kernel)) ggX0_hold_X0_dueFor
set_option maxRecDepth 20000 in
theorem ggX0_hold_X0_note : GoodIn wsX0_hold wsX0_note := goodIn_r _ [112, 13, 16, 14, 113, 114, 3, 115, 15, 17, 116, 117, 118, 119, 120] (by decide +kernel) (by decide +kernel)
set_option maxRecDepth 20000 in
theorem gX0_hold_X0_note : GoodIn wsX0_hold (wsV RX0 44 RX0 yX0_note wsX0_note) := goodIn_app (goodIn_of _ (by decide +kernel)) ggX0_hold_X0_note
theorem dX0_hold_0 : decode cX0_hold 0 = .ok (.aload_n 0, 1) := by decide +kernel
theorem dX0_hold_1 : decode cX0_hold 1 = .ok (.invokevirtual 9, 3) := by decide +kernel
theorem dX0_hold_4 : decode cX0_hold 4 = .ok (.aload_n 1, 1) := by decide +kernel
theorem dX0_hold_5 : decode cX0_hold 5 = .ok (.invokevirtual 14, 3) := by decide +kernel
theorem dX0_hold_8 : decode cX0_hold 8 = .ok (.iconst 1, 1) := by decide +kernel
theorem dX0_hold_9 : decode cX0_hold 9 = .ok (.ishr, 1) := by decide +kernel
theorem dX0_hold_10 : decode cX0_hold 10 = .ok (.istore 5, 2) := by decide +kernel
theorem dX0_hold_12 : decode cX0_hold 12 = .ok (.iconst 1, 1) := by decide +kernel
theorem dX0_hold_13 : decode cX0_hold 13 = .ok (.aload_n 1, 1) := by decide +kernel
theorem dX0_hold_14 : decode cX0_hold 14 = .ok (.invokevirtual 14, 3) := by decide +kernel
theorem dX0_hold_17 : decode cX0_hold 17 = .ok (.ishl, 1) := by decide +kernel
theorem dX0_hold_18 : decode cX0_hold 18 = .ok (.istore 6, 2) := by decide +kernel
theorem dX0_hold_20 : decode cX0_hold 20 = .ok (.iconst 0, 1) := by decide +kernel
theorem dX0_hold_21 : decode cX0_hold 21 = .ok (.istore 7, 2) := by decide +kernel
theorem dX0_hold_23 : decode cX0_hold 23 = .ok (.iload 7, 2) := by decide +kernel
theorem dX0_hold_25 : decode cX0_hold 25 = .ok (.iload 6, 2) := by decide +kernel
theorem dX0_hold_27 : decode cX0_hold 27 = .ok (.if_icmp .ge 87, 3) := by decide +kernel
theorem dX0_hold_30 : decode cX0_hold 30 = .ok (.aload_n 2, 1) := by decide +kernel
theorem dX0_hold_31 : decode cX0_hold 31 = .ok (.aload_n 1, 1) := by decide +kernel
theorem dX0_hold_32 : decode cX0_hold 32 = .ok (.iload 7, 2) := by decide +kernel
theorem dX0_hold_34 : decode cX0_hold 34 = .ok (.invokevirtual 20, 3) := by decide +kernel
theorem dX0_hold_37 : decode cX0_hold 37 = .ok (.bipush 64, 2) := by decide +kernel
theorem dX0_hold_39 : decode cX0_hold 39 = .ok (.iload 6, 2) := by decide +kernel
theorem dX0_hold_41 : decode cX0_hold 41 = .ok (.iload 7, 2) := by decide +kernel
theorem dX0_hold_43 : decode cX0_hold 43 = .ok (.isub, 1) := by decide +kernel
theorem dX0_hold_44 : decode cX0_hold 44 = .ok (.invokestatic 26, 3) := by decide +kernel
theorem dX0_hold_47 : decode cX0_hold 47 = .ok (.istore 8, 2) := by decide +kernel
theorem dX0_hold_49 : decode cX0_hold 49 = .ok (.iconst 0, 1) := by decide +kernel
theorem dX0_hold_50 : decode cX0_hold 50 = .ok (.istore 9, 2) := by decide +kernel
theorem dX0_hold_52 : decode cX0_hold 52 = .ok (.iload 9, 2) := by decide +kernel
theorem dX0_hold_54 : decode cX0_hold 54 = .ok (.iload 8, 2) := by decide +kernel
theorem dX0_hold_56 : decode cX0_hold 56 = .ok (.if_icmp .ge 52, 3) := by decide +kernel
theorem dX0_hold_59 : decode cX0_hold 59 = .ok (.iload 7, 2) := by decide +kernel
theorem dX0_hold_61 : decode cX0_hold 61 = .ok (.iload 9, 2) := by decide +kernel
theorem dX0_hold_63 : decode cX0_hold 63 = .ok (.iadd, 1) := by decide +kernel
theorem dX0_hold_64 : decode cX0_hold 64 = .ok (.istore 10, 2) := by decide +kernel
theorem dX0_hold_66 : decode cX0_hold 66 = .ok (.aload_n 2, 1) := by decide +kernel
theorem dX0_hold_67 : decode cX0_hold 67 = .ok (.aload_n 1, 1) := by decide +kernel
theorem dX0_hold_68 : decode cX0_hold 68 = .ok (.iload 9, 2) := by decide +kernel
theorem dX0_hold_70 : decode cX0_hold 70 = .ok (.invokevirtual 32, 3) := by decide +kernel
theorem dX0_hold_73 : decode cX0_hold 73 = .ok (.iload_n 3, 1) := by decide +kernel
theorem dX0_hold_74 : decode cX0_hold 74 = .ok (.iload 10, 2) := by decide +kernel
theorem dX0_hold_76 : decode cX0_hold 76 = .ok (.iload 5, 2) := by decide +kernel
theorem dX0_hold_78 : decode cX0_hold 78 = .ok (.invokestatic 36, 3) := by decide +kernel
theorem dX0_hold_81 : decode cX0_hold 81 = .ok (.isub, 1) := by decide +kernel
theorem dX0_hold_82 : decode cX0_hold 82 = .ok (.invokestatic 40, 3) := by decide +kernel
theorem dX0_hold_85 : decode cX0_hold 85 = .ok (.istore 11, 2) := by decide +kernel
theorem dX0_hold_87 : decode cX0_hold 87 = .ok (.iload 11, 2) := by decide +kernel
theorem dX0_hold_89 : decode cX0_hold 89 = .ok (.ifCond .le 13, 3) := by decide +kernel
theorem dX0_hold_92 : decode cX0_hold 92 = .ok (.aload_n 0, 1) := by decide +kernel
theorem dX0_hold_93 : decode cX0_hold 93 = .ok (.iload 10, 2) := by decide +kernel
theorem dX0_hold_95 : decode cX0_hold 95 = .ok (.iload 11, 2) := by decide +kernel
theorem dX0_hold_97 : decode cX0_hold 97 = .ok (.iload 4, 2) := by decide +kernel
theorem dX0_hold_99 : decode cX0_hold 99 = .ok (.invokevirtual 44, 3) := by decide +kernel
theorem dX0_hold_102 : decode cX0_hold 102 = .ok (.iinc 9 1, 3) := by decide +kernel
theorem dX0_hold_105 : decode cX0_hold 105 = .ok (.goto (-53), 3) := by decide +kernel
theorem dX0_hold_108 : decode cX0_hold 108 = .ok (.iinc 7 64, 3) := by decide +kernel
theorem dX0_hold_111 : decode cX0_hold 111 = .ok (.goto (-88), 3) := by decide +kernel
theorem dX0_hold_114 : decode cX0_hold 114 = .ok (.return_, 1) := by decide +kernel
theorem dX0_told_0 : decode cX0_told 0 = .ok (.iload_n 1, 1) := by decide +kernel
theorem dX0_told_1 : decode cX0_told 1 = .ok (.tableswitch 42 0 2 #[27, 32, 37], 27) := by decide +kernel
theorem dX0_told_28 : decode cX0_told 28 = .ok (.aload_n 0, 1) := by decide +kernel
theorem dX0_told_29 : decode cX0_told 29 = .ok (.getfield 48, 3) := by decide +kernel
theorem dX0_told_32 : decode cX0_told 32 = .ok (.ireturn, 1) := by decide +kernel
theorem dX0_told_33 : decode cX0_told 33 = .ok (.aload_n 0, 1) := by decide +kernel
theorem dX0_told_34 : decode cX0_told 34 = .ok (.getfield 52, 3) := by decide +kernel
theorem dX0_told_37 : decode cX0_told 37 = .ok (.ireturn, 1) := by decide +kernel
theorem dX0_told_38 : decode cX0_told 38 = .ok (.aload_n 0, 1) := by decide +kernel
theorem dX0_told_39 : decode cX0_told 39 = .ok (.getfield 55, 3) := by decide +kernel
theorem dX0_told_42 : decode cX0_told 42 = .ok (.ireturn, 1) := by decide +kernel
theorem dX0_told_43 : decode cX0_told 43 = .ok (.aload_n 0, 1) := by decide +kernel
theorem dX0_told_44 : decode cX0_told 44 = .ok (.getfield 58, 3) := by decide +kernel
theorem dX0_told_47 : decode cX0_told 47 = .ok (.ireturn, 1) := by decide +kernel
theorem dX0_unseenCount_0 : decode cX0_unseenCount 0 = .ok (.aload_n 0, 1) := by decide +kernel
theorem dX0_unseenCount_1 : decode cX0_unseenCount 1 = .ok (.getfield 61, 3) := by decide +kernel
theorem dX0_unseenCount_4 : decode cX0_unseenCount 4 = .ok (.ireturn, 1) := by decide +kernel
theorem dX0_begin_0 : decode cX0_begin 0 = .ok (.aload_n 0, 1) := by decide +kernel
theorem dX0_begin_1 : decode cX0_begin 1 = .ok (.iconst 0, 1) := by decide +kernel
theorem dX0_begin_2 : decode cX0_begin 2 = .ok (.putfield 48, 3) := by decide +kernel
theorem dX0_begin_5 : decode cX0_begin 5 = .ok (.aload_n 0, 1) := by decide +kernel
theorem dX0_begin_6 : decode cX0_begin 6 = .ok (.iconst 0, 1) := by decide +kernel
theorem dX0_begin_7 : decode cX0_begin 7 = .ok (.putfield 52, 3) := by decide +kernel
theorem dX0_begin_10 : decode cX0_begin 10 = .ok (.aload_n 0, 1) := by decide +kernel
theorem dX0_begin_11 : decode cX0_begin 11 = .ok (.iconst 0, 1) := by decide +kernel
theorem dX0_begin_12 : decode cX0_begin 12 = .ok (.putfield 55, 3) := by decide +kernel
theorem dX0_begin_15 : decode cX0_begin 15 = .ok (.aload_n 0, 1) := by decide +kernel
theorem dX0_begin_16 : decode cX0_begin 16 = .ok (.iconst (-1), 1) := by decide +kernel
theorem dX0_begin_17 : decode cX0_begin 17 = .ok (.putfield 58, 3) := by decide +kernel
theorem dX0_begin_20 : decode cX0_begin 20 = .ok (.aload_n 0, 1) := by decide +kernel
theorem dX0_begin_21 : decode cX0_begin 21 = .ok (.iconst 0, 1) := by decide +kernel
theorem dX0_begin_22 : decode cX0_begin 22 = .ok (.putfield 61, 3) := by decide +kernel
theorem dX0_begin_25 : decode cX0_begin 25 = .ok (.return_, 1) := by decide +kernel
theorem dX0_note_0 : decode cX0_note 0 = .ok (.aload_n 0, 1) := by decide +kernel
theorem dX0_note_1 : decode cX0_note 1 = .ok (.getfield 48, 3) := by decide +kernel
theorem dX0_note_4 : decode cX0_note 4 = .ok (.ifCond .ne 8, 3) := by decide +kernel
theorem dX0_note_7 : decode cX0_note 7 = .ok (.aload_n 0, 1) := by decide +kernel
theorem dX0_note_8 : decode cX0_note 8 = .ok (.iload_n 1, 1) := by decide +kernel
theorem dX0_note_9 : decode cX0_note 9 = .ok (.putfield 58, 3) := by decide +kernel
theorem dX0_note_12 : decode cX0_note 12 = .ok (.aload_n 0, 1) := by decide +kernel
theorem dX0_note_13 : decode cX0_note 13 = .ok (.dup, 1) := by decide +kernel
theorem dX0_note_14 : decode cX0_note 14 = .ok (.getfield 48, 3) := by decide +kernel
theorem dX0_note_17 : decode cX0_note 17 = .ok (.iconst 1, 1) := by decide +kernel
theorem dX0_note_18 : decode cX0_note 18 = .ok (.iadd, 1) := by decide +kernel
theorem dX0_note_19 : decode cX0_note 19 = .ok (.putfield 48, 3) := by decide +kernel
theorem dX0_note_22 : decode cX0_note 22 = .ok (.aload_n 0, 1) := by decide +kernel
theorem dX0_note_23 : decode cX0_note 23 = .ok (.aload_n 0, 1) := by decide +kernel
theorem dX0_note_24 : decode cX0_note 24 = .ok (.getfield 52, 3) := by decide +kernel
theorem dX0_note_27 : decode cX0_note 27 = .ok (.iload_n 2, 1) := by decide +kernel
theorem dX0_note_28 : decode cX0_note 28 = .ok (.invokestatic 64, 3) := by decide +kernel
theorem dX0_note_31 : decode cX0_note 31 = .ok (.putfield 52, 3) := by decide +kernel
theorem dX0_note_34 : decode cX0_note 34 = .ok (.aload_n 0, 1) := by decide +kernel
theorem dX0_note_35 : decode cX0_note 35 = .ok (.dup, 1) := by decide +kernel
theorem dX0_note_36 : decode cX0_note 36 = .ok (.getfield 55, 3) := by decide +kernel
theorem dX0_note_39 : decode cX0_note 39 = .ok (.iload_n 2, 1) := by decide +kernel
theorem dX0_note_40 : decode cX0_note 40 = .ok (.iadd, 1) := by decide +kernel
theorem dX0_note_41 : decode cX0_note 41 = .ok (.putfield 55, 3) := by decide +kernel
theorem dX0_note_44 : decode cX0_note 44 = .ok (.iload_n 3, 1) := by decide +kernel
theorem dX0_note_45 : decode cX0_note 45 = .ok (.ifCond .le 19, 3) := by decide +kernel
theorem dX0_note_48 : decode cX0_note 48 = .ok (.iload_n 2, 1) := by decide +kernel
theorem dX0_note_49 : decode cX0_note 49 = .ok (.iload_n 3, 1) := by decide +kernel
theorem dX0_note_50 : decode cX0_note 50 = .ok (.irem, 1) := by decide +kernel
theorem dX0_note_51 : decode cX0_note 51 = .ok (.ifCond .ne 13, 3) := by decide +kernel
theorem dX0_note_54 : decode cX0_note 54 = .ok (.aload_n 0, 1) := by decide +kernel
theorem dX0_note_55 : decode cX0_note 55 = .ok (.dup, 1) := by decide +kernel
theorem dX0_note_56 : decode cX0_note 56 = .ok (.getfield 61, 3) := by decide +kernel
theorem dX0_note_59 : decode cX0_note 59 = .ok (.iconst 1, 1) := by decide +kernel
theorem dX0_note_60 : decode cX0_note 60 = .ok (.iadd, 1) := by decide +kernel
theorem dX0_note_61 : decode cX0_note 61 = .ok (.putfield 61, 3) := by decide +kernel
theorem dX0_note_64 : decode cX0_note 64 = .ok (.return_, 1) := by decide +kernel
theorem dX0_dueFor_0 : decode cX0_dueFor 0 = .ok (.iload_n 1, 1) := by decide +kernel
theorem dX0_dueFor_1 : decode cX0_dueFor 1 = .ok (.iconst 1, 1) := by decide +kernel
theorem dX0_dueFor_2 : decode cX0_dueFor 2 = .ok (.iload_n 2, 1) := by decide +kernel
theorem dX0_dueFor_3 : decode cX0_dueFor 3 = .ok (.ishl, 1) := by decide +kernel
theorem dX0_dueFor_4 : decode cX0_dueFor 4 = .ok (.iconst 1, 1) := by decide +kernel
theorem dX0_dueFor_5 : decode cX0_dueFor 5 = .ok (.isub, 1) := by decide +kernel
theorem dX0_dueFor_6 : decode cX0_dueFor 6 = .ok (.iand, 1) := by decide +kernel
theorem dX0_dueFor_7 : decode cX0_dueFor 7 = .ok (.istore_n 3, 1) := by decide +kernel
theorem dX0_dueFor_8 : decode cX0_dueFor 8 = .ok (.iload_n 1, 1) := by decide +kernel
theorem dX0_dueFor_9 : decode cX0_dueFor 9 = .ok (.iload_n 2, 1) := by decide +kernel
theorem dX0_dueFor_10 : decode cX0_dueFor 10 = .ok (.ishr, 1) := by decide +kernel
theorem dX0_dueFor_11 : decode cX0_dueFor 11 = .ok (.istore 4, 2) := by decide +kernel
theorem dX0_dueFor_13 : decode cX0_dueFor 13 = .ok (.iload_n 0, 1) := by decide +kernel
theorem dX0_dueFor_14 : decode cX0_dueFor 14 = .ok (.ifCond .ne 10, 3) := by decide +kernel
theorem dX0_dueFor_17 : decode cX0_dueFor 17 = .ok (.iload_n 3, 1) := by decide +kernel
theorem dX0_dueFor_18 : decode cX0_dueFor 18 = .ok (.iload 4, 2) := by decide +kernel
theorem dX0_dueFor_20 : decode cX0_dueFor 20 = .ok (.iadd, 1) := by decide +kernel
theorem dX0_dueFor_21 : decode cX0_dueFor 21 = .ok (.goto 7, 3) := by decide +kernel
theorem dX0_dueFor_24 : decode cX0_dueFor 24 = .ok (.iload_n 3, 1) := by decide +kernel
theorem dX0_dueFor_25 : decode cX0_dueFor 25 = .ok (.iload 4, 2) := by decide +kernel
theorem dX0_dueFor_27 : decode cX0_dueFor 27 = .ok (.imul, 1) := by decide +kernel
theorem dX0_dueFor_28 : decode cX0_dueFor 28 = .ok (.ireturn, 1) := by decide +kernel

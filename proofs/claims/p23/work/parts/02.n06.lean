set_option maxRecDepth 20000 in
theorem ggX10_init_X4_init : GoodIn wsX10_init wsX4_init := goodIn_r _ [12, 13, 2, 3, 14, 15, 16] (by decide +kernel) (by decide +kernel)
set_option maxRecDepth 20000 in
theorem gX10_init_X4_init : GoodIn wsX10_init (wsX4_init) := ggX10_init_X4_init
theorem dX10_init_0 : decode cX10_init 0 = .ok (.aload_n 0, 1) := by decide +kernel
theorem dX10_init_1 : decode cX10_init 1 = .ok (.invokespecial 3, 3) := by decide +kernel
theorem dX10_init_4 : decode cX10_init 4 = .ok (.aload_n 0, 1) := by decide +kernel
theorem dX10_init_5 : decode cX10_init 5 = .ok (.new 9, 3) := by decide +kernel
theorem dX10_init_8 : decode cX10_init 8 = .ok (.dup, 1) := by decide +kernel
theorem dX10_init_9 : decode cX10_init 9 = .ok (.bipush 120, 2) := by decide +kernel
theorem dX10_init_11 : decode cX10_init 11 = .ok (.invokespecial 11, 3) := by decide +kernel
theorem dX10_init_14 : decode cX10_init 14 = .ok (.putfield 14, 3) := by decide +kernel
theorem dX10_init_17 : decode cX10_init 17 = .ok (.aload_n 0, 1) := by decide +kernel
theorem dX10_init_18 : decode cX10_init 18 = .ok (.new 9, 3) := by decide +kernel
theorem dX10_init_21 : decode cX10_init 21 = .ok (.dup, 1) := by decide +kernel
theorem dX10_init_22 : decode cX10_init 22 = .ok (.bipush 120, 2) := by decide +kernel
theorem dX10_init_24 : decode cX10_init 24 = .ok (.invokespecial 11, 3) := by decide +kernel
theorem dX10_init_27 : decode cX10_init 27 = .ok (.putfield 20, 3) := by decide +kernel
theorem dX10_init_30 : decode cX10_init 30 = .ok (.aload_n 0, 1) := by decide +kernel
theorem dX10_init_31 : decode cX10_init 31 = .ok (.new 9, 3) := by decide +kernel
theorem dX10_init_34 : decode cX10_init 34 = .ok (.dup, 1) := by decide +kernel
theorem dX10_init_35 : decode cX10_init 35 = .ok (.bipush 120, 2) := by decide +kernel
theorem dX10_init_37 : decode cX10_init 37 = .ok (.invokespecial 11, 3) := by decide +kernel
theorem dX10_init_40 : decode cX10_init 40 = .ok (.putfield 23, 3) := by decide +kernel
theorem dX10_init_43 : decode cX10_init 43 = .ok (.return_, 1) := by decide +kernel
set_option maxRecDepth 20000 in
theorem ggX10_greatestLoad_X4_wipe : GoodIn wsX10_greatestLoad wsX4_wipe := goodIn_r _ [10, 11, 64] (by decide +kernel) (by decide +kernel)
set_option maxRecDepth 20000 in
theorem gX10_greatestLoad_X4_wipe : GoodIn wsX10_greatestLoad (wsV RX10 26 RX4 yX4_wipe wsX4_wipe) := goodIn_app (goodIn_of _ (by decide +kernel)) ggX10_greatestLoad_X4_wipe
set_option maxRecDepth 20000 in
theorem ggX10_greatestLoad_X3_size : GoodIn wsX10_greatestLoad wsX3_size := goodIn_r _ [16, 17, 65, 66, 67, 68, 69, 70, 71, 72] (by decide +kernel) (by decide +kernel)
set_option maxRecDepth 20000 in
theorem gX10_greatestLoad_X3_size : GoodIn wsX10_greatestLoad (wsV RX10 29 RX3 yX3_size wsX3_size) := goodIn_app (goodIn_of _ (by decide +kernel)) ggX10_greatestLoad_X3_size
set_option maxRecDepth 20000 in
theorem ggX10_greatestLoad_X3_isInput : GoodIn wsX10_greatestLoad wsX3_isInput := goodIn_r _ [21, 22, 23, 24, 25, 9, 26, 11, 65, 66, 67, 68, 69, 70, 71, 72, 64] (by decide +kernel) (by decide +kernel)
set_option maxRecDepth 20000 in
theorem gX10_greatestLoad_X3_isInput : GoodIn wsX10_greatestLoad (wsV RX10 35 RX3 yX3_isInput wsX3_isInput) := goodIn_app (goodIn_of _ (by decide +kernel)) ggX10_greatestLoad_X3_isInput
set_option maxRecDepth 20000 in
theorem ggX10_greatestLoad_X3_firstOf : GoodIn wsX10_greatestLoad wsX3_firstOf := goodIn_r _ [30, 31, 23, 24, 25, 9, 26, 11, 65, 66, 67, 68, 69, 70, 71, 72, 64] (by decide +kernel) (by decide +kernel)
set_option maxRecDepth 20000 in
theorem gX10_greatestLoad_X3_firstOf : GoodIn wsX10_greatestLoad (wsV RX10 39 RX3 yX3_firstOf wsX3_firstOf) := goodIn_app (goodIn_of _ (by decide +kernel)) ggX10_greatestLoad_X3_firstOf
set_option maxRecDepth 20000 in
theorem ggX10_greatestLoad_X4_add : GoodIn wsX10_greatestLoad wsX4_add := goodIn_r _ [35, 36, 24, 25, 9, 26, 11, 37, 38, 39, 40, 64] (by decide +kernel) (by decide +kernel)
set_option maxRecDepth 20000 in
theorem gX10_greatestLoad_X4_add : GoodIn wsX10_greatestLoad (wsV RX10 43 RX4 yX4_add wsX4_add) := goodIn_app (goodIn_of _ (by decide +kernel)) ggX10_greatestLoad_X4_add
set_option maxRecDepth 20000 in
theorem ggX10_greatestLoad_X3_secondOf : GoodIn wsX10_greatestLoad wsX3_secondOf := goodIn_r _ [44, 45, 23, 24, 25, 9, 26, 11, 65, 66, 67, 68, 69, 70, 71, 72, 64] (by decide +kernel) (by decide +kernel)
set_option maxRecDepth 20000 in
theorem gX10_greatestLoad_X3_secondOf : GoodIn wsX10_greatestLoad (wsV RX10 47 RX3 yX3_secondOf wsX3_secondOf) := goodIn_app (goodIn_of _ (by decide +kernel)) ggX10_greatestLoad_X3_secondOf
set_option maxRecDepth 20000 in
theorem ggX10_greatestLoad_X3_kindOf : GoodIn wsX10_greatestLoad wsX3_kindOf := goodIn_r _ [49, 22, 23, 24, 25, 9, 26, 11, 65, 66, 67, 68, 69, 70, 71, 72, 64] (by decide +kernel) (by decide +kernel)
set_option maxRecDepth 20000 in
theorem gX10_greatestLoad_X3_kindOf : GoodIn wsX10_greatestLoad (wsV RX10 50 RX3 yX3_kindOf wsX3_kindOf) := goodIn_app (goodIn_of _ (by decide +kernel)) ggX10_greatestLoad_X3_kindOf
set_option maxRecDepth 20000 in
theorem ggX10_greatestLoad_X3_outCount : GoodIn wsX10_greatestLoad wsX3_outCount := goodIn_r _ [53, 54, 65, 66, 67, 68, 69, 70, 71, 72] (by decide +kernel) (by decide +kernel)
set_option maxRecDepth 20000 in
theorem gX10_greatestLoad_X3_outCount : GoodIn wsX10_greatestLoad (wsV RX10 53 RX3 yX3_outCount wsX3_outCount) := goodIn_app (goodIn_of _ (by decide +kernel)) ggX10_greatestLoad_X3_outCount
set_option maxRecDepth 20000 in
theorem ggX10_greatestLoad_X3_outAt : GoodIn wsX10_greatestLoad wsX3_outAt := goodIn_r _ [58, 59, 23, 24, 25, 9, 26, 11, 65, 66, 67, 68, 69, 70, 71, 72, 64] (by decide +kernel) (by decide +kernel)
set_option maxRecDepth 20000 in
theorem gX10_greatestLoad_X3_outAt : GoodIn wsX10_greatestLoad (wsV RX10 56 RX3 yX3_outAt wsX3_outAt) := goodIn_app (goodIn_of _ (by decide +kernel)) ggX10_greatestLoad_X3_outAt
set_option maxRecDepth 20000 in
theorem ggX10_greatestLoad_X4_at : GoodIn wsX10_greatestLoad wsX4_at := goodIn_r _ [26, 11, 64] (by decide +kernel) (by decide +kernel)
set_option maxRecDepth 20000 in
theorem gX10_greatestLoad_X4_at : GoodIn wsX10_greatestLoad (wsV RX10 59 RX4 yX4_at wsX4_at) := goodIn_app (goodIn_of _ (by decide +kernel)) ggX10_greatestLoad_X4_at
theorem dX10_greatestLoad_0 : decode cX10_greatestLoad 0 = .ok (.aload_n 0, 1) := by decide +kernel
theorem dX10_greatestLoad_1 : decode cX10_greatestLoad 1 = .ok (.getfield 23, 3) := by decide +kernel
theorem dX10_greatestLoad_4 : decode cX10_greatestLoad 4 = .ok (.invokevirtual 26, 3) := by decide +kernel
theorem dX10_greatestLoad_7 : decode cX10_greatestLoad 7 = .ok (.iconst 0, 1) := by decide +kernel
theorem dX10_greatestLoad_8 : decode cX10_greatestLoad 8 = .ok (.istore_n 2, 1) := by decide +kernel
theorem dX10_greatestLoad_9 : decode cX10_greatestLoad 9 = .ok (.iload_n 2, 1) := by decide +kernel
theorem dX10_greatestLoad_10 : decode cX10_greatestLoad 10 = .ok (.aload_n 1, 1) := by decide +kernel
theorem dX10_greatestLoad_11 : decode cX10_greatestLoad 11 = .ok (.invokevirtual 29, 3) := by decide +kernel
theorem dX10_greatestLoad_14 : decode cX10_greatestLoad 14 = .ok (.if_icmp .ge 56, 3) := by decide +kernel
theorem dX10_greatestLoad_17 : decode cX10_greatestLoad 17 = .ok (.aload_n 1, 1) := by decide +kernel
theorem dX10_greatestLoad_18 : decode cX10_greatestLoad 18 = .ok (.iload_n 2, 1) := by decide +kernel
theorem dX10_greatestLoad_19 : decode cX10_greatestLoad 19 = .ok (.invokevirtual 35, 3) := by decide +kernel
theorem dX10_greatestLoad_22 : decode cX10_greatestLoad 22 = .ok (.ifCond .ne 42, 3) := by decide +kernel
theorem dX10_greatestLoad_25 : decode cX10_greatestLoad 25 = .ok (.aload_n 0, 1) := by decide +kernel
theorem dX10_greatestLoad_26 : decode cX10_greatestLoad 26 = .ok (.getfield 23, 3) := by decide +kernel
theorem dX10_greatestLoad_29 : decode cX10_greatestLoad 29 = .ok (.aload_n 1, 1) := by decide +kernel
theorem dX10_greatestLoad_30 : decode cX10_greatestLoad 30 = .ok (.iload_n 2, 1) := by decide +kernel
theorem dX10_greatestLoad_31 : decode cX10_greatestLoad 31 = .ok (.invokevirtual 39, 3) := by decide +kernel
theorem dX10_greatestLoad_34 : decode cX10_greatestLoad 34 = .ok (.iconst 1, 1) := by decide +kernel
theorem dX10_greatestLoad_35 : decode cX10_greatestLoad 35 = .ok (.invokevirtual 43, 3) := by decide +kernel
theorem dX10_greatestLoad_38 : decode cX10_greatestLoad 38 = .ok (.aload_n 0, 1) := by decide +kernel
theorem dX10_greatestLoad_39 : decode cX10_greatestLoad 39 = .ok (.getfield 23, 3) := by decide +kernel
theorem dX10_greatestLoad_42 : decode cX10_greatestLoad 42 = .ok (.aload_n 1, 1) := by decide +kernel
theorem dX10_greatestLoad_43 : decode cX10_greatestLoad 43 = .ok (.iload_n 2, 1) := by decide +kernel
theorem dX10_greatestLoad_44 : decode cX10_greatestLoad 44 = .ok (.invokevirtual 47, 3) := by decide +kernel
theorem dX10_greatestLoad_47 : decode cX10_greatestLoad 47 = .ok (.aload_n 1, 1) := by decide +kernel
theorem dX10_greatestLoad_48 : decode cX10_greatestLoad 48 = .ok (.iload_n 2, 1) := by decide +kernel
theorem dX10_greatestLoad_49 : decode cX10_greatestLoad 49 = .ok (.invokevirtual 50, 3) := by decide +kernel
theorem dX10_greatestLoad_52 : decode cX10_greatestLoad 52 = .ok (.iconst 3, 1) := by decide +kernel
theorem dX10_greatestLoad_53 : decode cX10_greatestLoad 53 = .ok (.if_icmp .ne 7, 3) := by decide +kernel
theorem dX10_greatestLoad_56 : decode cX10_greatestLoad 56 = .ok (.iconst 0, 1) := by decide +kernel
theorem dX10_greatestLoad_57 : decode cX10_greatestLoad 57 = .ok (.goto 4, 3) := by decide +kernel
theorem dX10_greatestLoad_60 : decode cX10_greatestLoad 60 = .ok (.iconst 1, 1) := by decide +kernel
theorem dX10_greatestLoad_61 : decode cX10_greatestLoad 61 = .ok (.invokevirtual 43, 3) := by decide +kernel
theorem dX10_greatestLoad_64 : decode cX10_greatestLoad 64 = .ok (.iinc 2 1, 3) := by decide +kernel
theorem dX10_greatestLoad_67 : decode cX10_greatestLoad 67 = .ok (.goto (-58), 3) := by decide +kernel
theorem dX10_greatestLoad_70 : decode cX10_greatestLoad 70 = .ok (.iconst 0, 1) := by decide +kernel
theorem dX10_greatestLoad_71 : decode cX10_greatestLoad 71 = .ok (.istore_n 2, 1) := by decide +kernel
theorem dX10_greatestLoad_72 : decode cX10_greatestLoad 72 = .ok (.iload_n 2, 1) := by decide +kernel
theorem dX10_greatestLoad_73 : decode cX10_greatestLoad 73 = .ok (.aload_n 1, 1) := by decide +kernel
theorem dX10_greatestLoad_74 : decode cX10_greatestLoad 74 = .ok (.invokevirtual 53, 3) := by decide +kernel
theorem dX10_greatestLoad_77 : decode cX10_greatestLoad 77 = .ok (.if_icmp .ge 22, 3) := by decide +kernel
theorem dX10_greatestLoad_80 : decode cX10_greatestLoad 80 = .ok (.aload_n 0, 1) := by decide +kernel
theorem dX10_greatestLoad_81 : decode cX10_greatestLoad 81 = .ok (.getfield 23, 3) := by decide +kernel
theorem dX10_greatestLoad_84 : decode cX10_greatestLoad 84 = .ok (.aload_n 1, 1) := by decide +kernel
theorem dX10_greatestLoad_85 : decode cX10_greatestLoad 85 = .ok (.iload_n 2, 1) := by decide +kernel
theorem dX10_greatestLoad_86 : decode cX10_greatestLoad 86 = .ok (.invokevirtual 56, 3) := by decide +kernel
theorem dX10_greatestLoad_89 : decode cX10_greatestLoad 89 = .ok (.iconst 1, 1) := by decide +kernel
theorem dX10_greatestLoad_90 : decode cX10_greatestLoad 90 = .ok (.invokevirtual 43, 3) := by decide +kernel
theorem dX10_greatestLoad_93 : decode cX10_greatestLoad 93 = .ok (.iinc 2 1, 3) := by decide +kernel
theorem dX10_greatestLoad_96 : decode cX10_greatestLoad 96 = .ok (.goto (-24), 3) := by decide +kernel
theorem dX10_greatestLoad_99 : decode cX10_greatestLoad 99 = .ok (.iconst 0, 1) := by decide +kernel
theorem dX10_greatestLoad_100 : decode cX10_greatestLoad 100 = .ok (.istore_n 2, 1) := by decide +kernel
theorem dX10_greatestLoad_101 : decode cX10_greatestLoad 101 = .ok (.iconst 0, 1) := by decide +kernel
theorem dX10_greatestLoad_102 : decode cX10_greatestLoad 102 = .ok (.istore_n 3, 1) := by decide +kernel
theorem dX10_greatestLoad_103 : decode cX10_greatestLoad 103 = .ok (.iload_n 3, 1) := by decide +kernel
theorem dX10_greatestLoad_104 : decode cX10_greatestLoad 104 = .ok (.aload_n 1, 1) := by decide +kernel
theorem dX10_greatestLoad_105 : decode cX10_greatestLoad 105 = .ok (.invokevirtual 29, 3) := by decide +kernel
theorem dX10_greatestLoad_108 : decode cX10_greatestLoad 108 = .ok (.if_icmp .ge 22, 3) := by decide +kernel
theorem dX10_greatestLoad_111 : decode cX10_greatestLoad 111 = .ok (.iload_n 2, 1) := by decide +kernel
theorem dX10_greatestLoad_112 : decode cX10_greatestLoad 112 = .ok (.aload_n 0, 1) := by decide +kernel
theorem dX10_greatestLoad_113 : decode cX10_greatestLoad 113 = .ok (.getfield 23, 3) := by decide +kernel
theorem dX10_greatestLoad_116 : decode cX10_greatestLoad 116 = .ok (.iload_n 3, 1) := by decide +kernel
theorem dX10_greatestLoad_117 : decode cX10_greatestLoad 117 = .ok (.invokevirtual 59, 3) := by decide +kernel
theorem dX10_greatestLoad_120 : decode cX10_greatestLoad 120 = .ok (.invokestatic 62, 3) := by decide +kernel
theorem dX10_greatestLoad_123 : decode cX10_greatestLoad 123 = .ok (.istore_n 2, 1) := by decide +kernel
theorem dX10_greatestLoad_124 : decode cX10_greatestLoad 124 = .ok (.iinc 3 1, 3) := by decide +kernel
theorem dX10_greatestLoad_127 : decode cX10_greatestLoad 127 = .ok (.goto (-24), 3) := by decide +kernel
theorem dX10_greatestLoad_130 : decode cX10_greatestLoad 130 = .ok (.iload_n 2, 1) := by decide +kernel
theorem dX10_greatestLoad_131 : decode cX10_greatestLoad 131 = .ok (.ireturn, 1) := by decide +kernel
set_option maxRecDepth 20000 in
theorem ggX10_idleCount_X4_wipe : GoodIn wsX10_idleCount wsX4_wipe := goodIn_r _ [6, 7, 56] (by decide +kernel) (by decide +kernel)
set_option maxRecDepth 20000 in
theorem gX10_idleCount_X4_wipe : GoodIn wsX10_idleCount (wsV RX10 26 RX4 yX4_wipe wsX4_wipe) := goodIn_app (goodIn_of _ (by decide +kernel)) ggX10_idleCount_X4_wipe
set_option maxRecDepth 20000 in
theorem ggX10_idleCount_X3_outCount : GoodIn wsX10_idleCount wsX3_outCount := goodIn_r _ [12, 13, 57, 58, 59, 60, 61, 62, 63, 64] (by decide +kernel) (by decide +kernel)
set_option maxRecDepth 20000 in
theorem gX10_idleCount_X3_outCount : GoodIn wsX10_idleCount (wsV RX10 53 RX3 yX3_outCount wsX3_outCount) := goodIn_app (goodIn_of _ (by decide +kernel)) ggX10_idleCount_X3_outCount
set_option maxRecDepth 20000 in
theorem ggX10_idleCount_X3_outAt : GoodIn wsX10_idleCount wsX3_outAt := goodIn_r _ [17, 18, 19, 20, 21, 5, 22, 7, 57, 58, 59, 60, 61, 62, 63, 64, 56] (by decide +kernel) (by decide +kernel)
set_option maxRecDepth 20000 in
theorem gX10_idleCount_X3_outAt : GoodIn wsX10_idleCount (wsV RX10 56 RX3 yX3_outAt wsX3_outAt) := goodIn_app (goodIn_of _ (by decide +kernel)) ggX10_idleCount_X3_outAt
set_option maxRecDepth 20000 in
theorem ggX10_idleCount_X4_put : GoodIn wsX10_idleCount wsX4_put := goodIn_r _ [26, 7, 56] (by decide +kernel) (by decide +kernel)
set_option maxRecDepth 20000 in
theorem gX10_idleCount_X4_put : GoodIn wsX10_idleCount (wsV RX10 68 RX4 yX4_put wsX4_put) := goodIn_app (goodIn_of _ (by decide +kernel)) ggX10_idleCount_X4_put
set_option maxRecDepth 20000 in
theorem ggX10_idleCount_X10_markBack : GoodIn wsX10_idleCount wsX10_markBack := goodIn_r _ [31, 1, 32, 33, 34, 11, 35, 36, 37, 20, 21, 5, 22, 7, 38, 39, 40, 41, 42, 19, 43, 44, 45, 46, 47, 23, 24, 25, 26, 48, 49, 50, 51, 52, 53, 54, 55, 57, 58, 59, 60, 61, 62, 63, 64, 56] (by decide +kernel) (by decide +kernel)
set_option maxRecDepth 20000 in
theorem gX10_idleCount_X10_markBack : GoodIn wsX10_idleCount (wsV RX10 71 RX10 yX10_markBack wsX10_markBack) := goodIn_app (goodIn_of _ (by decide +kernel)) ggX10_idleCount_X10_markBack
set_option maxRecDepth 20000 in
theorem ggX10_idleCount_X3_size : GoodIn wsX10_idleCount wsX3_size := goodIn_r _ [35, 36, 57, 58, 59, 60, 61, 62, 63, 64] (by decide +kernel) (by decide +kernel)
set_option maxRecDepth 20000 in
theorem gX10_idleCount_X3_size : GoodIn wsX10_idleCount (wsV RX10 29 RX3 yX3_size wsX3_size) := goodIn_app (goodIn_of _ (by decide +kernel)) ggX10_idleCount_X3_size
set_option maxRecDepth 20000 in
theorem ggX10_idleCount_X3_isInput : GoodIn wsX10_idleCount wsX3_isInput := goodIn_r _ [41, 42, 19, 20, 21, 5, 22, 7, 57, 58, 59, 60, 61, 62, 63, 64, 56] (by decide +kernel) (by decide +kernel)
set_option maxRecDepth 20000 in
theorem gX10_idleCount_X3_isInput : GoodIn wsX10_idleCount (wsV RX10 35 RX3 yX3_isInput wsX3_isInput) := goodIn_app (goodIn_of _ (by decide +kernel)) ggX10_idleCount_X3_isInput
set_option maxRecDepth 20000 in
theorem ggX10_idleCount_X4_at : GoodIn wsX10_idleCount wsX4_at := goodIn_r _ [22, 7, 56] (by decide +kernel) (by decide +kernel)
set_option maxRecDepth 20000 in
theorem gX10_idleCount_X4_at : GoodIn wsX10_idleCount (wsV RX10 59 RX4 yX4_at wsX4_at) := goodIn_app (goodIn_of _ (by decide +kernel)) ggX10_idleCount_X4_at
theorem dX10_idleCount_0 : decode cX10_idleCount 0 = .ok (.aload_n 0, 1) := by decide +kernel
theorem dX10_idleCount_1 : decode cX10_idleCount 1 = .ok (.getfield 14, 3) := by decide +kernel
theorem dX10_idleCount_4 : decode cX10_idleCount 4 = .ok (.invokevirtual 26, 3) := by decide +kernel
theorem dX10_idleCount_7 : decode cX10_idleCount 7 = .ok (.iconst 0, 1) := by decide +kernel
theorem dX10_idleCount_8 : decode cX10_idleCount 8 = .ok (.istore_n 2, 1) := by decide +kernel
theorem dX10_idleCount_9 : decode cX10_idleCount 9 = .ok (.iload_n 2, 1) := by decide +kernel
theorem dX10_idleCount_10 : decode cX10_idleCount 10 = .ok (.aload_n 1, 1) := by decide +kernel
theorem dX10_idleCount_11 : decode cX10_idleCount 11 = .ok (.invokevirtual 53, 3) := by decide +kernel
theorem dX10_idleCount_14 : decode cX10_idleCount 14 = .ok (.if_icmp .ge 22, 3) := by decide +kernel
theorem dX10_idleCount_17 : decode cX10_idleCount 17 = .ok (.aload_n 0, 1) := by decide +kernel
theorem dX10_idleCount_18 : decode cX10_idleCount 18 = .ok (.getfield 14, 3) := by decide +kernel
theorem dX10_idleCount_21 : decode cX10_idleCount 21 = .ok (.aload_n 1, 1) := by decide +kernel
theorem dX10_idleCount_22 : decode cX10_idleCount 22 = .ok (.iload_n 2, 1) := by decide +kernel
theorem dX10_idleCount_23 : decode cX10_idleCount 23 = .ok (.invokevirtual 56, 3) := by decide +kernel
theorem dX10_idleCount_26 : decode cX10_idleCount 26 = .ok (.iconst 1, 1) := by decide +kernel
theorem dX10_idleCount_27 : decode cX10_idleCount 27 = .ok (.invokevirtual 68, 3) := by decide +kernel
theorem dX10_idleCount_30 : decode cX10_idleCount 30 = .ok (.iinc 2 1, 3) := by decide +kernel
theorem dX10_idleCount_33 : decode cX10_idleCount 33 = .ok (.goto (-24), 3) := by decide +kernel
theorem dX10_idleCount_36 : decode cX10_idleCount 36 = .ok (.aload_n 0, 1) := by decide +kernel
theorem dX10_idleCount_37 : decode cX10_idleCount 37 = .ok (.aload_n 1, 1) := by decide +kernel
theorem dX10_idleCount_38 : decode cX10_idleCount 38 = .ok (.invokevirtual 71, 3) := by decide +kernel
theorem dX10_idleCount_41 : decode cX10_idleCount 41 = .ok (.iconst 0, 1) := by decide +kernel
theorem dX10_idleCount_42 : decode cX10_idleCount 42 = .ok (.istore_n 2, 1) := by decide +kernel
theorem dX10_idleCount_43 : decode cX10_idleCount 43 = .ok (.iconst 0, 1) := by decide +kernel
theorem dX10_idleCount_44 : decode cX10_idleCount 44 = .ok (.istore_n 3, 1) := by decide +kernel
theorem dX10_idleCount_45 : decode cX10_idleCount 45 = .ok (.iload_n 3, 1) := by decide +kernel
theorem dX10_idleCount_46 : decode cX10_idleCount 46 = .ok (.aload_n 1, 1) := by decide +kernel
theorem dX10_idleCount_47 : decode cX10_idleCount 47 = .ok (.invokevirtual 29, 3) := by decide +kernel
theorem dX10_idleCount_50 : decode cX10_idleCount 50 = .ok (.if_icmp .ge 31, 3) := by decide +kernel
theorem dX10_idleCount_53 : decode cX10_idleCount 53 = .ok (.aload_n 1, 1) := by decide +kernel
theorem dX10_idleCount_54 : decode cX10_idleCount 54 = .ok (.iload_n 3, 1) := by decide +kernel
theorem dX10_idleCount_55 : decode cX10_idleCount 55 = .ok (.invokevirtual 35, 3) := by decide +kernel
theorem dX10_idleCount_58 : decode cX10_idleCount 58 = .ok (.ifCond .ne 17, 3) := by decide +kernel
theorem dX10_idleCount_61 : decode cX10_idleCount 61 = .ok (.aload_n 0, 1) := by decide +kernel
theorem dX10_idleCount_62 : decode cX10_idleCount 62 = .ok (.getfield 14, 3) := by decide +kernel
theorem dX10_idleCount_65 : decode cX10_idleCount 65 = .ok (.iload_n 3, 1) := by decide +kernel
theorem dX10_idleCount_66 : decode cX10_idleCount 66 = .ok (.invokevirtual 59, 3) := by decide +kernel
theorem dX10_idleCount_69 : decode cX10_idleCount 69 = .ok (.ifCond .ne 6, 3) := by decide +kernel
theorem dX10_idleCount_72 : decode cX10_idleCount 72 = .ok (.iinc 2 1, 3) := by decide +kernel
theorem dX10_idleCount_75 : decode cX10_idleCount 75 = .ok (.iinc 3 1, 3) := by decide +kernel
theorem dX10_idleCount_78 : decode cX10_idleCount 78 = .ok (.goto (-33), 3) := by decide +kernel
theorem dX10_idleCount_81 : decode cX10_idleCount 81 = .ok (.iload_n 2, 1) := by decide +kernel
theorem dX10_idleCount_82 : decode cX10_idleCount 82 = .ok (.ireturn, 1) := by decide +kernel
set_option maxRecDepth 20000 in
theorem ggX10_bitGoingBack_X4_wipe : GoodIn wsX10_bitGoingBack wsX4_wipe := goodIn_r _ [7, 8, 64] (by decide +kernel) (by decide +kernel)
set_option maxRecDepth 20000 in
theorem gX10_bitGoingBack_X4_wipe : GoodIn wsX10_bitGoingBack (wsV RX10 26 RX4 yX4_wipe wsX4_wipe) := goodIn_app (goodIn_of _ (by decide +kernel)) ggX10_bitGoingBack_X4_wipe
set_option maxRecDepth 20000 in
theorem ggX10_bitGoingBack_X4_put : GoodIn wsX10_bitGoingBack wsX4_put := goodIn_r _ [12, 8, 64] (by decide +kernel) (by decide +kernel)
set_option maxRecDepth 20000 in
theorem gX10_bitGoingBack_X4_put : GoodIn wsX10_bitGoingBack (wsV RX10 68 RX4 yX4_put wsX4_put) := goodIn_app (goodIn_of _ (by decide +kernel)) ggX10_bitGoingBack_X4_put
set_option maxRecDepth 20000 in
theorem ggX10_bitGoingBack_X10_markBack : GoodIn wsX10_bitGoingBack wsX10_markBack := goodIn_r _ [17, 1, 18, 19, 20, 21, 22, 23, 24, 25, 26, 6, 27, 8, 28, 29, 30, 31, 32, 33, 34, 35, 36, 37, 38, 9, 10, 11, 12, 39, 40, 41, 42, 43, 61, 62, 63, 65, 66, 67, 68, 69, 70, 71, 72, 64] (by decide +kernel) (by decide +kernel)
set_option maxRecDepth 20000 in
theorem gX10_bitGoingBack_X10_markBack : GoodIn wsX10_bitGoingBack (wsV RX10 71 RX10 yX10_markBack wsX10_markBack) := goodIn_app (goodIn_of _ (by decide +kernel)) ggX10_bitGoingBack_X10_markBack
set_option maxRecDepth 20000 in
theorem ggX10_bitGoingBack_X4_at : GoodIn wsX10_bitGoingBack wsX4_at := goodIn_r _ [27, 8, 64] (by decide +kernel) (by decide +kernel)
set_option maxRecDepth 20000 in
theorem gX10_bitGoingBack_X4_at : GoodIn wsX10_bitGoingBack (wsV RX10 59 RX4 yX4_at wsX4_at) := goodIn_app (goodIn_of _ (by decide +kernel)) ggX10_bitGoingBack_X4_at
set_option maxRecDepth 20000 in
theorem ggX10_bitGoingBack_X10_markedBit : GoodIn wsX10_bitGoingBack wsX10_markedBit := goodIn_r _ [47, 2, 48, 49, 50, 21, 51, 52, 33, 25, 26, 6, 27, 8, 28, 29, 30, 31, 32, 34, 35, 36, 37, 38, 24, 39, 40, 41, 42, 43, 53, 54, 55, 56, 57, 58, 59, 60, 61, 62, 63, 65, 66, 67, 68, 69, 70, 71, 72, 64] (by decide +kernel) (by decide +kernel)
set_option maxRecDepth 20000 in
theorem gX10_bitGoingBack_X10_markedBit : GoodIn wsX10_bitGoingBack (wsV RX10 75 RX10 yX10_markedBit wsX10_markedBit) := goodIn_app (goodIn_of _ (by decide +kernel)) ggX10_bitGoingBack_X10_markedBit
set_option maxRecDepth 20000 in
theorem ggX10_bitGoingBack_X3_isInput : GoodIn wsX10_bitGoingBack wsX3_isInput := goodIn_r _ [31, 32, 33, 25, 26, 6, 27, 8, 65, 66, 67, 68, 69, 70, 71, 72, 64] (by decide +kernel) (by decide +kernel)
set_option maxRecDepth 20000 in
theorem gX10_bitGoingBack_X3_isInput : GoodIn wsX10_bitGoingBack (wsV RX10 35 RX3 yX3_isInput wsX3_isInput) := goodIn_app (goodIn_of _ (by decide +kernel)) ggX10_bitGoingBack_X3_isInput
theorem dX10_bitGoingBack_0 : decode cX10_bitGoingBack 0 = .ok (.aload_n 0, 1) := by decide +kernel
theorem dX10_bitGoingBack_1 : decode cX10_bitGoingBack 1 = .ok (.getfield 14, 3) := by decide +kernel
theorem dX10_bitGoingBack_4 : decode cX10_bitGoingBack 4 = .ok (.invokevirtual 26, 3) := by decide +kernel
theorem dX10_bitGoingBack_7 : decode cX10_bitGoingBack 7 = .ok (.aload_n 0, 1) := by decide +kernel
theorem dX10_bitGoingBack_8 : decode cX10_bitGoingBack 8 = .ok (.getfield 14, 3) := by decide +kernel
theorem dX10_bitGoingBack_11 : decode cX10_bitGoingBack 11 = .ok (.iload_n 2, 1) := by decide +kernel
theorem dX10_bitGoingBack_12 : decode cX10_bitGoingBack 12 = .ok (.iconst 1, 1) := by decide +kernel
theorem dX10_bitGoingBack_13 : decode cX10_bitGoingBack 13 = .ok (.invokevirtual 68, 3) := by decide +kernel
theorem dX10_bitGoingBack_16 : decode cX10_bitGoingBack 16 = .ok (.aload_n 0, 1) := by decide +kernel
theorem dX10_bitGoingBack_17 : decode cX10_bitGoingBack 17 = .ok (.aload_n 1, 1) := by decide +kernel
theorem dX10_bitGoingBack_18 : decode cX10_bitGoingBack 18 = .ok (.invokevirtual 71, 3) := by decide +kernel
theorem dX10_bitGoingBack_21 : decode cX10_bitGoingBack 21 = .ok (.iconst 0, 1) := by decide +kernel
theorem dX10_bitGoingBack_22 : decode cX10_bitGoingBack 22 = .ok (.istore 4, 2) := by decide +kernel
theorem dX10_bitGoingBack_24 : decode cX10_bitGoingBack 24 = .ok (.iconst 0, 1) := by decide +kernel
theorem dX10_bitGoingBack_25 : decode cX10_bitGoingBack 25 = .ok (.istore 5, 2) := by decide +kernel
theorem dX10_bitGoingBack_27 : decode cX10_bitGoingBack 27 = .ok (.iload 5, 2) := by decide +kernel
theorem dX10_bitGoingBack_29 : decode cX10_bitGoingBack 29 = .ok (.iload_n 2, 1) := by decide +kernel
theorem dX10_bitGoingBack_30 : decode cX10_bitGoingBack 30 = .ok (.if_icmp .gt 55, 3) := by decide +kernel
theorem dX10_bitGoingBack_33 : decode cX10_bitGoingBack 33 = .ok (.aload_n 0, 1) := by decide +kernel
theorem dX10_bitGoingBack_34 : decode cX10_bitGoingBack 34 = .ok (.getfield 14, 3) := by decide +kernel
theorem dX10_bitGoingBack_37 : decode cX10_bitGoingBack 37 = .ok (.iload 5, 2) := by decide +kernel
theorem dX10_bitGoingBack_39 : decode cX10_bitGoingBack 39 = .ok (.invokevirtual 59, 3) := by decide +kernel
theorem dX10_bitGoingBack_42 : decode cX10_bitGoingBack 42 = .ok (.ifCond .eq 25, 3) := by decide +kernel
theorem dX10_bitGoingBack_45 : decode cX10_bitGoingBack 45 = .ok (.aload_n 0, 1) := by decide +kernel
theorem dX10_bitGoingBack_46 : decode cX10_bitGoingBack 46 = .ok (.getfield 20, 3) := by decide +kernel
theorem dX10_bitGoingBack_49 : decode cX10_bitGoingBack 49 = .ok (.iload 5, 2) := by decide +kernel
theorem dX10_bitGoingBack_51 : decode cX10_bitGoingBack 51 = .ok (.aload_n 0, 1) := by decide +kernel
theorem dX10_bitGoingBack_52 : decode cX10_bitGoingBack 52 = .ok (.aload_n 1, 1) := by decide +kernel
theorem dX10_bitGoingBack_53 : decode cX10_bitGoingBack 53 = .ok (.iload 5, 2) := by decide +kernel
theorem dX10_bitGoingBack_55 : decode cX10_bitGoingBack 55 = .ok (.iload_n 3, 1) := by decide +kernel
theorem dX10_bitGoingBack_56 : decode cX10_bitGoingBack 56 = .ok (.iload 4, 2) := by decide +kernel
theorem dX10_bitGoingBack_58 : decode cX10_bitGoingBack 58 = .ok (.ishr, 1) := by decide +kernel
theorem dX10_bitGoingBack_59 : decode cX10_bitGoingBack 59 = .ok (.iconst 1, 1) := by decide +kernel
theorem dX10_bitGoingBack_60 : decode cX10_bitGoingBack 60 = .ok (.iand, 1) := by decide +kernel
theorem dX10_bitGoingBack_61 : decode cX10_bitGoingBack 61 = .ok (.invokevirtual 75, 3) := by decide +kernel
theorem dX10_bitGoingBack_64 : decode cX10_bitGoingBack 64 = .ok (.invokevirtual 68, 3) := by decide +kernel
theorem dX10_bitGoingBack_67 : decode cX10_bitGoingBack 67 = .ok (.aload_n 1, 1) := by decide +kernel
theorem dX10_bitGoingBack_68 : decode cX10_bitGoingBack 68 = .ok (.iload 5, 2) := by decide +kernel
theorem dX10_bitGoingBack_70 : decode cX10_bitGoingBack 70 = .ok (.invokevirtual 35, 3) := by decide +kernel
theorem dX10_bitGoingBack_73 : decode cX10_bitGoingBack 73 = .ok (.ifCond .eq 6, 3) := by decide +kernel
theorem dX10_bitGoingBack_76 : decode cX10_bitGoingBack 76 = .ok (.iinc 4 1, 3) := by decide +kernel
theorem dX10_bitGoingBack_79 : decode cX10_bitGoingBack 79 = .ok (.iinc 5 1, 3) := by decide +kernel
theorem dX10_bitGoingBack_82 : decode cX10_bitGoingBack 82 = .ok (.goto (-55), 3) := by decide +kernel
theorem dX10_bitGoingBack_85 : decode cX10_bitGoingBack 85 = .ok (.aload_n 0, 1) := by decide +kernel
theorem dX10_bitGoingBack_86 : decode cX10_bitGoingBack 86 = .ok (.getfield 20, 3) := by decide +kernel
theorem dX10_bitGoingBack_89 : decode cX10_bitGoingBack 89 = .ok (.iload_n 2, 1) := by decide +kernel
theorem dX10_bitGoingBack_90 : decode cX10_bitGoingBack 90 = .ok (.invokevirtual 59, 3) := by decide +kernel
theorem dX10_bitGoingBack_93 : decode cX10_bitGoingBack 93 = .ok (.ireturn, 1) := by decide +kernel
set_option maxRecDepth 20000 in
theorem ggX10_markBack_X3_size : GoodIn wsX10_markBack wsX3_size := goodIn_r _ [6, 7, 37, 38, 39, 40, 41, 42, 43, 44] (by decide +kernel) (by decide +kernel)
set_option maxRecDepth 20000 in
theorem gX10_markBack_X3_size : GoodIn wsX10_markBack (wsV RX10 29 RX3 yX3_size wsX3_size) := goodIn_app (goodIn_of _ (by decide +kernel)) ggX10_markBack_X3_size
set_option maxRecDepth 20000 in
theorem ggX10_markBack_X4_at : GoodIn wsX10_markBack wsX4_at := goodIn_r _ [12, 13, 45] (by decide +kernel) (by decide +kernel)
set_option maxRecDepth 20000 in
theorem gX10_markBack_X4_at : GoodIn wsX10_markBack (wsV RX10 59 RX4 yX4_at wsX4_at) := goodIn_app (goodIn_of _ (by decide +kernel)) ggX10_markBack_X4_at
set_option maxRecDepth 20000 in
theorem ggX10_markBack_X3_isInput : GoodIn wsX10_markBack wsX3_isInput := goodIn_r _ [17, 18, 19, 9, 10, 11, 12, 13, 37, 38, 39, 40, 41, 42, 43, 44, 45] (by decide +kernel) (by decide +kernel)
set_option maxRecDepth 20000 in
theorem gX10_markBack_X3_isInput : GoodIn wsX10_markBack (wsV RX10 35 RX3 yX3_isInput wsX3_isInput) := goodIn_app (goodIn_of _ (by decide +kernel)) ggX10_markBack_X3_isInput
set_option maxRecDepth 20000 in
theorem ggX10_markBack_X3_firstOf : GoodIn wsX10_markBack wsX3_firstOf := goodIn_r _ [23, 24, 19, 9, 10, 11, 12, 13, 37, 38, 39, 40, 41, 42, 43, 44, 45] (by decide +kernel) (by decide +kernel)
set_option maxRecDepth 20000 in
theorem gX10_markBack_X3_firstOf : GoodIn wsX10_markBack (wsV RX10 39 RX3 yX3_firstOf wsX3_firstOf) := goodIn_app (goodIn_of _ (by decide +kernel)) ggX10_markBack_X3_firstOf
set_option maxRecDepth 20000 in
theorem ggX10_markBack_X4_put : GoodIn wsX10_markBack wsX4_put := goodIn_r _ [28, 13, 45] (by decide +kernel) (by decide +kernel)
set_option maxRecDepth 20000 in
theorem gX10_markBack_X4_put : GoodIn wsX10_markBack (wsV RX10 68 RX4 yX4_put wsX4_put) := goodIn_app (goodIn_of _ (by decide +kernel)) ggX10_markBack_X4_put
set_option maxRecDepth 20000 in
theorem ggX10_markBack_X3_secondOf : GoodIn wsX10_markBack wsX3_secondOf := goodIn_r _ [32, 33, 19, 9, 10, 11, 12, 13, 37, 38, 39, 40, 41, 42, 43, 44, 45] (by decide +kernel) (by decide +kernel)
set_option maxRecDepth 20000 in
theorem gX10_markBack_X3_secondOf : GoodIn wsX10_markBack (wsV RX10 47 RX3 yX3_secondOf wsX3_secondOf) := goodIn_app (goodIn_of _ (by decide +kernel)) ggX10_markBack_X3_secondOf
theorem dX10_markBack_0 : decode cX10_markBack 0 = .ok (.aload_n 1, 1) := by decide +kernel
theorem dX10_markBack_1 : decode cX10_markBack 1 = .ok (.invokevirtual 29, 3) := by decide +kernel
theorem dX10_markBack_4 : decode cX10_markBack 4 = .ok (.iconst 1, 1) := by decide +kernel
theorem dX10_markBack_5 : decode cX10_markBack 5 = .ok (.isub, 1) := by decide +kernel
theorem dX10_markBack_6 : decode cX10_markBack 6 = .ok (.istore_n 2, 1) := by decide +kernel
theorem dX10_markBack_7 : decode cX10_markBack 7 = .ok (.iload_n 2, 1) := by decide +kernel
theorem dX10_markBack_8 : decode cX10_markBack 8 = .ok (.ifCond .lt 54, 3) := by decide +kernel
theorem dX10_markBack_11 : decode cX10_markBack 11 = .ok (.aload_n 0, 1) := by decide +kernel
theorem dX10_markBack_12 : decode cX10_markBack 12 = .ok (.getfield 14, 3) := by decide +kernel
theorem dX10_markBack_15 : decode cX10_markBack 15 = .ok (.iload_n 2, 1) := by decide +kernel
theorem dX10_markBack_16 : decode cX10_markBack 16 = .ok (.invokevirtual 59, 3) := by decide +kernel
theorem dX10_markBack_19 : decode cX10_markBack 19 = .ok (.ifCond .eq 37, 3) := by decide +kernel
theorem dX10_markBack_22 : decode cX10_markBack 22 = .ok (.aload_n 1, 1) := by decide +kernel
theorem dX10_markBack_23 : decode cX10_markBack 23 = .ok (.iload_n 2, 1) := by decide +kernel
theorem dX10_markBack_24 : decode cX10_markBack 24 = .ok (.invokevirtual 35, 3) := by decide +kernel
theorem dX10_markBack_27 : decode cX10_markBack 27 = .ok (.ifCond .ne 29, 3) := by decide +kernel
theorem dX10_markBack_30 : decode cX10_markBack 30 = .ok (.aload_n 0, 1) := by decide +kernel
theorem dX10_markBack_31 : decode cX10_markBack 31 = .ok (.getfield 14, 3) := by decide +kernel
theorem dX10_markBack_34 : decode cX10_markBack 34 = .ok (.aload_n 1, 1) := by decide +kernel
theorem dX10_markBack_35 : decode cX10_markBack 35 = .ok (.iload_n 2, 1) := by decide +kernel
theorem dX10_markBack_36 : decode cX10_markBack 36 = .ok (.invokevirtual 39, 3) := by decide +kernel
theorem dX10_markBack_39 : decode cX10_markBack 39 = .ok (.iconst 1, 1) := by decide +kernel
theorem dX10_markBack_40 : decode cX10_markBack 40 = .ok (.invokevirtual 68, 3) := by decide +kernel
theorem dX10_markBack_43 : decode cX10_markBack 43 = .ok (.aload_n 0, 1) := by decide +kernel
theorem dX10_markBack_44 : decode cX10_markBack 44 = .ok (.getfield 14, 3) := by decide +kernel
theorem dX10_markBack_47 : decode cX10_markBack 47 = .ok (.aload_n 1, 1) := by decide +kernel
theorem dX10_markBack_48 : decode cX10_markBack 48 = .ok (.iload_n 2, 1) := by decide +kernel
theorem dX10_markBack_49 : decode cX10_markBack 49 = .ok (.invokevirtual 47, 3) := by decide +kernel
theorem dX10_markBack_52 : decode cX10_markBack 52 = .ok (.iconst 1, 1) := by decide +kernel
theorem dX10_markBack_53 : decode cX10_markBack 53 = .ok (.invokevirtual 68, 3) := by decide +kernel
theorem dX10_markBack_56 : decode cX10_markBack 56 = .ok (.iinc 2 (-1), 3) := by decide +kernel
theorem dX10_markBack_59 : decode cX10_markBack 59 = .ok (.goto (-52), 3) := by decide +kernel
theorem dX10_markBack_62 : decode cX10_markBack 62 = .ok (.return_, 1) := by decide +kernel
set_option maxRecDepth 20000 in
theorem ggX10_markedBit_X3_stuckBitOf : GoodIn wsX10_markedBit wsX3_stuckBitOf := goodIn_r _ [6, 7, 8, 9, 10, 11, 12, 13, 41, 42, 43, 44, 45, 46, 47, 48, 49] (by decide +kernel) (by decide +kernel)
set_option maxRecDepth 20000 in
theorem gX10_markedBit_X3_stuckBitOf : GoodIn wsX10_markedBit (wsV RX10 79 RX3 yX3_stuckBitOf wsX3_stuckBitOf) := goodIn_app (goodIn_of _ (by decide +kernel)) ggX10_markedBit_X3_stuckBitOf
set_option maxRecDepth 20000 in
theorem ggX10_markedBit_X3_isInput : GoodIn wsX10_markedBit wsX3_isInput := goodIn_r _ [17, 18, 8, 9, 10, 11, 12, 13, 41, 42, 43, 44, 45, 46, 47, 48, 49] (by decide +kernel) (by decide +kernel)
set_option maxRecDepth 20000 in
theorem gX10_markedBit_X3_isInput : GoodIn wsX10_markedBit (wsV RX10 35 RX3 yX3_isInput wsX3_isInput) := goodIn_app (goodIn_of _ (by decide +kernel)) ggX10_markedBit_X3_isInput
set_option maxRecDepth 20000 in
theorem ggX10_markedBit_X3_firstOf : GoodIn wsX10_markedBit wsX3_firstOf := goodIn_r _ [22, 23, 8, 9, 10, 11, 12, 13, 41, 42, 43, 44, 45, 46, 47, 48, 49] (by decide +kernel) (by decide +kernel)
set_option maxRecDepth 20000 in
theorem gX10_markedBit_X3_firstOf : GoodIn wsX10_markedBit (wsV RX10 39 RX3 yX3_firstOf wsX3_firstOf) := goodIn_app (goodIn_of _ (by decide +kernel)) ggX10_markedBit_X3_firstOf
set_option maxRecDepth 20000 in
theorem ggX10_markedBit_X4_at : GoodIn wsX10_markedBit wsX4_at := goodIn_r _ [12, 13, 49] (by decide +kernel) (by decide +kernel)
set_option maxRecDepth 20000 in
theorem gX10_markedBit_X4_at : GoodIn wsX10_markedBit (wsV RX10 59 RX4 yX4_at wsX4_at) := goodIn_app (goodIn_of _ (by decide +kernel)) ggX10_markedBit_X4_at
set_option maxRecDepth 20000 in
theorem ggX10_markedBit_X3_secondOf : GoodIn wsX10_markedBit wsX3_secondOf := goodIn_r _ [28, 29, 8, 9, 10, 11, 12, 13, 41, 42, 43, 44, 45, 46, 47, 48, 49] (by decide +kernel) (by decide +kernel)
set_option maxRecDepth 20000 in
theorem gX10_markedBit_X3_secondOf : GoodIn wsX10_markedBit (wsV RX10 47 RX3 yX3_secondOf wsX3_secondOf) := goodIn_app (goodIn_of _ (by decide +kernel)) ggX10_markedBit_X3_secondOf
set_option maxRecDepth 20000 in
theorem ggX10_markedBit_X3_kindOf : GoodIn wsX10_markedBit wsX3_kindOf := goodIn_r _ [33, 18, 8, 9, 10, 11, 12, 13, 41, 42, 43, 44, 45, 46, 47, 48, 49] (by decide +kernel) (by decide +kernel)
set_option maxRecDepth 20000 in
theorem gX10_markedBit_X3_kindOf : GoodIn wsX10_markedBit (wsV RX10 50 RX3 yX3_kindOf wsX3_kindOf) := goodIn_app (goodIn_of _ (by decide +kernel)) ggX10_markedBit_X3_kindOf
set_option maxRecDepth 20000 in
theorem ggX10_markedBit_X11_join : GoodIn wsX10_markedBit wsX11_join := goodIn_r _ [36, 37] (by decide +kernel) (by decide +kernel)
set_option maxRecDepth 20000 in
theorem gX10_markedBit_X11_join_n82 : GoodIn wsX10_markedBit (wsX11_join) := ggX10_markedBit_X11_join
theorem dX10_markedBit_0 : decode cX10_markedBit 0 = .ok (.aload_n 1, 1) := by decide +kernel
theorem dX10_markedBit_1 : decode cX10_markedBit 1 = .ok (.iload_n 2, 1) := by decide +kernel
theorem dX10_markedBit_2 : decode cX10_markedBit 2 = .ok (.invokevirtual 79, 3) := by decide +kernel
theorem dX10_markedBit_5 : decode cX10_markedBit 5 = .ok (.iconst (-1), 1) := by decide +kernel
theorem dX10_markedBit_6 : decode cX10_markedBit 6 = .ok (.if_icmp .eq 9, 3) := by decide +kernel
theorem dX10_markedBit_9 : decode cX10_markedBit 9 = .ok (.aload_n 1, 1) := by decide +kernel
theorem dX10_markedBit_10 : decode cX10_markedBit 10 = .ok (.iload_n 2, 1) := by decide +kernel
theorem dX10_markedBit_11 : decode cX10_markedBit 11 = .ok (.invokevirtual 79, 3) := by decide +kernel
theorem dX10_markedBit_14 : decode cX10_markedBit 14 = .ok (.ireturn, 1) := by decide +kernel
theorem dX10_markedBit_15 : decode cX10_markedBit 15 = .ok (.aload_n 1, 1) := by decide +kernel
theorem dX10_markedBit_16 : decode cX10_markedBit 16 = .ok (.iload_n 2, 1) := by decide +kernel
theorem dX10_markedBit_17 : decode cX10_markedBit 17 = .ok (.invokevirtual 35, 3) := by decide +kernel
theorem dX10_markedBit_20 : decode cX10_markedBit 20 = .ok (.ifCond .eq 5, 3) := by decide +kernel
theorem dX10_markedBit_23 : decode cX10_markedBit 23 = .ok (.iload_n 3, 1) := by decide +kernel
theorem dX10_markedBit_24 : decode cX10_markedBit 24 = .ok (.ireturn, 1) := by decide +kernel
theorem dX10_markedBit_25 : decode cX10_markedBit 25 = .ok (.aload_n 0, 1) := by decide +kernel
theorem dX10_markedBit_26 : decode cX10_markedBit 26 = .ok (.getfield 20, 3) := by decide +kernel
theorem dX10_markedBit_29 : decode cX10_markedBit 29 = .ok (.aload_n 1, 1) := by decide +kernel
theorem dX10_markedBit_30 : decode cX10_markedBit 30 = .ok (.iload_n 2, 1) := by decide +kernel
theorem dX10_markedBit_31 : decode cX10_markedBit 31 = .ok (.invokevirtual 39, 3) := by decide +kernel
theorem dX10_markedBit_34 : decode cX10_markedBit 34 = .ok (.invokevirtual 59, 3) := by decide +kernel
theorem dX10_markedBit_37 : decode cX10_markedBit 37 = .ok (.i2l, 1) := by decide +kernel
theorem dX10_markedBit_38 : decode cX10_markedBit 38 = .ok (.lstore 4, 2) := by decide +kernel
theorem dX10_markedBit_40 : decode cX10_markedBit 40 = .ok (.aload_n 0, 1) := by decide +kernel
theorem dX10_markedBit_41 : decode cX10_markedBit 41 = .ok (.getfield 20, 3) := by decide +kernel
theorem dX10_markedBit_44 : decode cX10_markedBit 44 = .ok (.aload_n 1, 1) := by decide +kernel
theorem dX10_markedBit_45 : decode cX10_markedBit 45 = .ok (.iload_n 2, 1) := by decide +kernel
theorem dX10_markedBit_46 : decode cX10_markedBit 46 = .ok (.invokevirtual 47, 3) := by decide +kernel
theorem dX10_markedBit_49 : decode cX10_markedBit 49 = .ok (.invokevirtual 59, 3) := by decide +kernel
theorem dX10_markedBit_52 : decode cX10_markedBit 52 = .ok (.i2l, 1) := by decide +kernel
theorem dX10_markedBit_53 : decode cX10_markedBit 53 = .ok (.lstore 6, 2) := by decide +kernel
theorem dX10_markedBit_55 : decode cX10_markedBit 55 = .ok (.aload_n 1, 1) := by decide +kernel
theorem dX10_markedBit_56 : decode cX10_markedBit 56 = .ok (.iload_n 2, 1) := by decide +kernel
theorem dX10_markedBit_57 : decode cX10_markedBit 57 = .ok (.invokevirtual 50, 3) := by decide +kernel
theorem dX10_markedBit_60 : decode cX10_markedBit 60 = .ok (.lload 4, 2) := by decide +kernel
theorem dX10_markedBit_62 : decode cX10_markedBit 62 = .ok (.lload 6, 2) := by decide +kernel
theorem dX10_markedBit_64 : decode cX10_markedBit 64 = .ok (.invokestatic 82, 3) := by decide +kernel
theorem dX10_markedBit_67 : decode cX10_markedBit 67 = .ok (.lconst 1, 1) := by decide +kernel
theorem dX10_markedBit_68 : decode cX10_markedBit 68 = .ok (.land, 1) := by decide +kernel
theorem dX10_markedBit_69 : decode cX10_markedBit 69 = .ok (.l2i, 1) := by decide +kernel
theorem dX10_markedBit_70 : decode cX10_markedBit 70 = .ok (.ireturn, 1) := by decide +kernel

set_option maxRecDepth 20000 in
theorem ggX7_init_X4_init : GoodIn wsX7_init wsX4_init := goodIn_r _ [10, 11, 2, 3, 12, 13, 14] (by decide +kernel) (by decide +kernel)
set_option maxRecDepth 20000 in
theorem gX7_init_X4_init : GoodIn wsX7_init (wsX4_init) := ggX7_init_X4_init
theorem dX7_init_0 : decode cX7_init 0 = .ok (.aload_n 0, 1) := by decide +kernel
theorem dX7_init_1 : decode cX7_init 1 = .ok (.invokespecial 3, 3) := by decide +kernel
theorem dX7_init_4 : decode cX7_init 4 = .ok (.aload_n 0, 1) := by decide +kernel
theorem dX7_init_5 : decode cX7_init 5 = .ok (.new 9, 3) := by decide +kernel
theorem dX7_init_8 : decode cX7_init 8 = .ok (.dup, 1) := by decide +kernel
theorem dX7_init_9 : decode cX7_init 9 = .ok (.bipush 120, 2) := by decide +kernel
theorem dX7_init_11 : decode cX7_init 11 = .ok (.invokespecial 11, 3) := by decide +kernel
theorem dX7_init_14 : decode cX7_init 14 = .ok (.putfield 14, 3) := by decide +kernel
theorem dX7_init_17 : decode cX7_init 17 = .ok (.return_, 1) := by decide +kernel
set_option maxRecDepth 20000 in
theorem ggX7_measure_X3_size : GoodIn wsX7_measure wsX3_size := goodIn_r _ [11, 12, 45, 46, 47, 48, 49, 50, 51, 52] (by decide +kernel) (by decide +kernel)
set_option maxRecDepth 20000 in
theorem gX7_measure_X3_size : GoodIn wsX7_measure (wsV RX7 24 RX3 yX3_size wsX3_size) := goodIn_app (goodIn_of _ (by decide +kernel)) ggX7_measure_X3_size
set_option maxRecDepth 20000 in
theorem ggX7_measure_X3_isInput : GoodIn wsX7_measure wsX3_isInput := goodIn_r _ [16, 17, 18, 19, 20, 21, 22, 23, 45, 46, 47, 48, 49, 50, 51, 52, 53] (by decide +kernel) (by decide +kernel)
set_option maxRecDepth 20000 in
theorem gX7_measure_X3_isInput : GoodIn wsX7_measure (wsV RX7 30 RX3 yX3_isInput wsX3_isInput) := goodIn_app (goodIn_of _ (by decide +kernel)) ggX7_measure_X3_isInput
set_option maxRecDepth 20000 in
theorem ggX7_measure_X3_firstOf : GoodIn wsX7_measure wsX3_firstOf := goodIn_r _ [27, 28, 18, 19, 20, 21, 22, 23, 45, 46, 47, 48, 49, 50, 51, 52, 53] (by decide +kernel) (by decide +kernel)
set_option maxRecDepth 20000 in
theorem gX7_measure_X3_firstOf : GoodIn wsX7_measure (wsV RX7 34 RX3 yX3_firstOf wsX3_firstOf) := goodIn_app (goodIn_of _ (by decide +kernel)) ggX7_measure_X3_firstOf
set_option maxRecDepth 20000 in
theorem ggX7_measure_X4_at : GoodIn wsX7_measure wsX4_at := goodIn_r _ [22, 23, 53] (by decide +kernel) (by decide +kernel)
set_option maxRecDepth 20000 in
theorem gX7_measure_X4_at : GoodIn wsX7_measure (wsV RX7 38 RX4 yX4_at wsX4_at) := goodIn_app (goodIn_of _ (by decide +kernel)) ggX7_measure_X4_at
set_option maxRecDepth 20000 in
theorem ggX7_measure_X3_secondOf : GoodIn wsX7_measure wsX3_secondOf := goodIn_r _ [33, 34, 18, 19, 20, 21, 22, 23, 45, 46, 47, 48, 49, 50, 51, 52, 53] (by decide +kernel) (by decide +kernel)
set_option maxRecDepth 20000 in
theorem gX7_measure_X3_secondOf : GoodIn wsX7_measure (wsV RX7 41 RX3 yX3_secondOf wsX3_secondOf) := goodIn_app (goodIn_of _ (by decide +kernel)) ggX7_measure_X3_secondOf
set_option maxRecDepth 20000 in
theorem ggX7_measure_X3_kindOf : GoodIn wsX7_measure wsX3_kindOf := goodIn_r _ [38, 17, 18, 19, 20, 21, 22, 23, 45, 46, 47, 48, 49, 50, 51, 52, 53] (by decide +kernel) (by decide +kernel)
set_option maxRecDepth 20000 in
theorem gX7_measure_X3_kindOf : GoodIn wsX7_measure (wsV RX7 50 RX3 yX3_kindOf wsX3_kindOf) := goodIn_app (goodIn_of _ (by decide +kernel)) ggX7_measure_X3_kindOf
set_option maxRecDepth 20000 in
theorem ggX7_measure_X4_put : GoodIn wsX7_measure wsX4_put := goodIn_r _ [42, 23, 53] (by decide +kernel) (by decide +kernel)
set_option maxRecDepth 20000 in
theorem gX7_measure_X4_put : GoodIn wsX7_measure (wsV RX7 53 RX4 yX4_put wsX4_put) := goodIn_app (goodIn_of _ (by decide +kernel)) ggX7_measure_X4_put
theorem dX7_measure_0 : decode cX7_measure 0 = .ok (.aload_n 0, 1) := by decide +kernel
theorem dX7_measure_1 : decode cX7_measure 1 = .ok (.iconst 0, 1) := by decide +kernel
theorem dX7_measure_2 : decode cX7_measure 2 = .ok (.putfield 20, 3) := by decide +kernel
theorem dX7_measure_5 : decode cX7_measure 5 = .ok (.iconst 0, 1) := by decide +kernel
theorem dX7_measure_6 : decode cX7_measure 6 = .ok (.istore_n 3, 1) := by decide +kernel
theorem dX7_measure_7 : decode cX7_measure 7 = .ok (.iload_n 3, 1) := by decide +kernel
theorem dX7_measure_8 : decode cX7_measure 8 = .ok (.aload_n 1, 1) := by decide +kernel
theorem dX7_measure_9 : decode cX7_measure 9 = .ok (.invokevirtual 24, 3) := by decide +kernel
theorem dX7_measure_12 : decode cX7_measure 12 = .ok (.if_icmp .ge 86, 3) := by decide +kernel
theorem dX7_measure_15 : decode cX7_measure 15 = .ok (.iconst 0, 1) := by decide +kernel
theorem dX7_measure_16 : decode cX7_measure 16 = .ok (.istore 4, 2) := by decide +kernel
theorem dX7_measure_18 : decode cX7_measure 18 = .ok (.aload_n 1, 1) := by decide +kernel
theorem dX7_measure_19 : decode cX7_measure 19 = .ok (.iload_n 3, 1) := by decide +kernel
theorem dX7_measure_20 : decode cX7_measure 20 = .ok (.invokevirtual 30, 3) := by decide +kernel
theorem dX7_measure_23 : decode cX7_measure 23 = .ok (.ifCond .ne 46, 3) := by decide +kernel
theorem dX7_measure_26 : decode cX7_measure 26 = .ok (.aload_n 0, 1) := by decide +kernel
theorem dX7_measure_27 : decode cX7_measure 27 = .ok (.getfield 14, 3) := by decide +kernel
theorem dX7_measure_30 : decode cX7_measure 30 = .ok (.aload_n 1, 1) := by decide +kernel
theorem dX7_measure_31 : decode cX7_measure 31 = .ok (.iload_n 3, 1) := by decide +kernel
theorem dX7_measure_32 : decode cX7_measure 32 = .ok (.invokevirtual 34, 3) := by decide +kernel
theorem dX7_measure_35 : decode cX7_measure 35 = .ok (.invokevirtual 38, 3) := by decide +kernel
theorem dX7_measure_38 : decode cX7_measure 38 = .ok (.aload_n 0, 1) := by decide +kernel
theorem dX7_measure_39 : decode cX7_measure 39 = .ok (.getfield 14, 3) := by decide +kernel
theorem dX7_measure_42 : decode cX7_measure 42 = .ok (.aload_n 1, 1) := by decide +kernel
theorem dX7_measure_43 : decode cX7_measure 43 = .ok (.iload_n 3, 1) := by decide +kernel
theorem dX7_measure_44 : decode cX7_measure 44 = .ok (.invokevirtual 41, 3) := by decide +kernel
theorem dX7_measure_47 : decode cX7_measure 47 = .ok (.invokevirtual 38, 3) := by decide +kernel
theorem dX7_measure_50 : decode cX7_measure 50 = .ok (.invokestatic 44, 3) := by decide +kernel
theorem dX7_measure_53 : decode cX7_measure 53 = .ok (.istore 5, 2) := by decide +kernel
theorem dX7_measure_55 : decode cX7_measure 55 = .ok (.aload_n 2, 1) := by decide +kernel
theorem dX7_measure_56 : decode cX7_measure 56 = .ok (.aload_n 1, 1) := by decide +kernel
theorem dX7_measure_57 : decode cX7_measure 57 = .ok (.iload_n 3, 1) := by decide +kernel
theorem dX7_measure_58 : decode cX7_measure 58 = .ok (.invokevirtual 50, 3) := by decide +kernel
theorem dX7_measure_61 : decode cX7_measure 61 = .ok (.invokevirtual 38, 3) := by decide +kernel
theorem dX7_measure_64 : decode cX7_measure 64 = .ok (.iload 5, 2) := by decide +kernel
theorem dX7_measure_66 : decode cX7_measure 66 = .ok (.iadd, 1) := by decide +kernel
theorem dX7_measure_67 : decode cX7_measure 67 = .ok (.istore 4, 2) := by decide +kernel
theorem dX7_measure_69 : decode cX7_measure 69 = .ok (.aload_n 0, 1) := by decide +kernel
theorem dX7_measure_70 : decode cX7_measure 70 = .ok (.getfield 14, 3) := by decide +kernel
theorem dX7_measure_73 : decode cX7_measure 73 = .ok (.iload_n 3, 1) := by decide +kernel
theorem dX7_measure_74 : decode cX7_measure 74 = .ok (.iload 4, 2) := by decide +kernel
theorem dX7_measure_76 : decode cX7_measure 76 = .ok (.invokevirtual 53, 3) := by decide +kernel
theorem dX7_measure_79 : decode cX7_measure 79 = .ok (.aload_n 0, 1) := by decide +kernel
theorem dX7_measure_80 : decode cX7_measure 80 = .ok (.aload_n 0, 1) := by decide +kernel
theorem dX7_measure_81 : decode cX7_measure 81 = .ok (.getfield 20, 3) := by decide +kernel
theorem dX7_measure_84 : decode cX7_measure 84 = .ok (.iload 4, 2) := by decide +kernel
theorem dX7_measure_86 : decode cX7_measure 86 = .ok (.invokestatic 44, 3) := by decide +kernel
theorem dX7_measure_89 : decode cX7_measure 89 = .ok (.putfield 20, 3) := by decide +kernel
theorem dX7_measure_92 : decode cX7_measure 92 = .ok (.iinc 3 1, 3) := by decide +kernel
theorem dX7_measure_95 : decode cX7_measure 95 = .ok (.goto (-88), 3) := by decide +kernel
theorem dX7_measure_98 : decode cX7_measure 98 = .ok (.return_, 1) := by decide +kernel
set_option maxRecDepth 20000 in
theorem ggX7_timeOf_X4_at : GoodIn wsX7_timeOf wsX4_at := goodIn_r _ [6, 7, 10] (by decide +kernel) (by decide +kernel)
set_option maxRecDepth 20000 in
theorem gX7_timeOf_X4_at : GoodIn wsX7_timeOf (wsV RX7 38 RX4 yX4_at wsX4_at) := goodIn_app (goodIn_of _ (by decide +kernel)) ggX7_timeOf_X4_at
theorem dX7_timeOf_0 : decode cX7_timeOf 0 = .ok (.aload_n 0, 1) := by decide +kernel
theorem dX7_timeOf_1 : decode cX7_timeOf 1 = .ok (.getfield 14, 3) := by decide +kernel
theorem dX7_timeOf_4 : decode cX7_timeOf 4 = .ok (.iload_n 1, 1) := by decide +kernel
theorem dX7_timeOf_5 : decode cX7_timeOf 5 = .ok (.invokevirtual 38, 3) := by decide +kernel
theorem dX7_timeOf_8 : decode cX7_timeOf 8 = .ok (.ireturn, 1) := by decide +kernel
theorem dX7_latest_0 : decode cX7_latest 0 = .ok (.aload_n 0, 1) := by decide +kernel
theorem dX7_latest_1 : decode cX7_latest 1 = .ok (.getfield 20, 3) := by decide +kernel
theorem dX7_latest_4 : decode cX7_latest 4 = .ok (.ireturn, 1) := by decide +kernel
set_option maxRecDepth 20000 in
theorem ggX7_timeOfNet_X7_slowestOut : GoodIn wsX7_timeOfNet wsX7_slowestOut := goodIn_r _ [6, 1, 7, 8, 9, 10, 11, 12, 13, 14, 15, 16, 17, 18, 19, 20, 21, 22, 23, 24, 25, 26, 27, 28, 29, 30, 31, 32, 33, 34, 35] (by decide +kernel) (by decide +kernel)
set_option maxRecDepth 20000 in
theorem gX7_timeOfNet_X7_slowestOut : GoodIn wsX7_timeOfNet (wsV RX7 57 RX7 yX7_slowestOut wsX7_slowestOut) := goodIn_app (goodIn_of _ (by decide +kernel)) ggX7_timeOfNet_X7_slowestOut
set_option maxRecDepth 20000 in
theorem ggX7_timeOfNet_X4_at : GoodIn wsX7_timeOfNet wsX4_at := goodIn_r _ [22, 23, 35] (by decide +kernel) (by decide +kernel)
set_option maxRecDepth 20000 in
theorem gX7_timeOfNet_X4_at : GoodIn wsX7_timeOfNet (wsV RX7 38 RX4 yX4_at wsX4_at) := goodIn_app (goodIn_of _ (by decide +kernel)) ggX7_timeOfNet_X4_at
theorem dX7_timeOfNet_0 : decode cX7_timeOfNet 0 = .ok (.aload_n 0, 1) := by decide +kernel
theorem dX7_timeOfNet_1 : decode cX7_timeOfNet 1 = .ok (.aload_n 1, 1) := by decide +kernel
theorem dX7_timeOfNet_2 : decode cX7_timeOfNet 2 = .ok (.invokevirtual 57, 3) := by decide +kernel
theorem dX7_timeOfNet_5 : decode cX7_timeOfNet 5 = .ok (.istore_n 2, 1) := by decide +kernel
theorem dX7_timeOfNet_6 : decode cX7_timeOfNet 6 = .ok (.iload_n 2, 1) := by decide +kernel
theorem dX7_timeOfNet_7 : decode cX7_timeOfNet 7 = .ok (.iconst (-1), 1) := by decide +kernel
theorem dX7_timeOfNet_8 : decode cX7_timeOfNet 8 = .ok (.if_icmp .ne 7, 3) := by decide +kernel
theorem dX7_timeOfNet_11 : decode cX7_timeOfNet 11 = .ok (.iconst 0, 1) := by decide +kernel
theorem dX7_timeOfNet_12 : decode cX7_timeOfNet 12 = .ok (.goto 11, 3) := by decide +kernel
theorem dX7_timeOfNet_15 : decode cX7_timeOfNet 15 = .ok (.aload_n 0, 1) := by decide +kernel
theorem dX7_timeOfNet_16 : decode cX7_timeOfNet 16 = .ok (.getfield 14, 3) := by decide +kernel
theorem dX7_timeOfNet_19 : decode cX7_timeOfNet 19 = .ok (.iload_n 2, 1) := by decide +kernel
theorem dX7_timeOfNet_20 : decode cX7_timeOfNet 20 = .ok (.invokevirtual 38, 3) := by decide +kernel
theorem dX7_timeOfNet_23 : decode cX7_timeOfNet 23 = .ok (.ireturn, 1) := by decide +kernel
set_option maxRecDepth 20000 in
theorem ggX7_slowestOut_X3_outCount : GoodIn wsX7_slowestOut wsX3_outCount := goodIn_r _ [6, 7, 22, 23, 24, 25, 26, 27, 28, 29] (by decide +kernel) (by decide +kernel)
set_option maxRecDepth 20000 in
theorem gX7_slowestOut_X3_outCount : GoodIn wsX7_slowestOut (wsV RX7 61 RX3 yX3_outCount wsX3_outCount) := goodIn_app (goodIn_of _ (by decide +kernel)) ggX7_slowestOut_X3_outCount
set_option maxRecDepth 20000 in
theorem ggX7_slowestOut_X3_outAt : GoodIn wsX7_slowestOut wsX3_outAt := goodIn_r _ [11, 12, 13, 14, 15, 16, 17, 18, 22, 23, 24, 25, 26, 27, 28, 29, 30] (by decide +kernel) (by decide +kernel)
set_option maxRecDepth 20000 in
theorem gX7_slowestOut_X3_outAt : GoodIn wsX7_slowestOut (wsV RX7 64 RX3 yX3_outAt wsX3_outAt) := goodIn_app (goodIn_of _ (by decide +kernel)) ggX7_slowestOut_X3_outAt
set_option maxRecDepth 20000 in
theorem ggX7_slowestOut_X4_at : GoodIn wsX7_slowestOut wsX4_at := goodIn_r _ [17, 18, 30] (by decide +kernel) (by decide +kernel)
set_option maxRecDepth 20000 in
theorem gX7_slowestOut_X4_at : GoodIn wsX7_slowestOut (wsV RX7 38 RX4 yX4_at wsX4_at) := goodIn_app (goodIn_of _ (by decide +kernel)) ggX7_slowestOut_X4_at
theorem dX7_slowestOut_0 : decode cX7_slowestOut 0 = .ok (.iconst (-1), 1) := by decide +kernel
theorem dX7_slowestOut_1 : decode cX7_slowestOut 1 = .ok (.istore_n 2, 1) := by decide +kernel
theorem dX7_slowestOut_2 : decode cX7_slowestOut 2 = .ok (.iconst 0, 1) := by decide +kernel
theorem dX7_slowestOut_3 : decode cX7_slowestOut 3 = .ok (.istore_n 3, 1) := by decide +kernel
theorem dX7_slowestOut_4 : decode cX7_slowestOut 4 = .ok (.iload_n 3, 1) := by decide +kernel
theorem dX7_slowestOut_5 : decode cX7_slowestOut 5 = .ok (.aload_n 1, 1) := by decide +kernel
theorem dX7_slowestOut_6 : decode cX7_slowestOut 6 = .ok (.invokevirtual 61, 3) := by decide +kernel
theorem dX7_slowestOut_9 : decode cX7_slowestOut 9 = .ok (.if_icmp .ge 44, 3) := by decide +kernel
theorem dX7_slowestOut_12 : decode cX7_slowestOut 12 = .ok (.aload_n 1, 1) := by decide +kernel
theorem dX7_slowestOut_13 : decode cX7_slowestOut 13 = .ok (.iload_n 3, 1) := by decide +kernel
theorem dX7_slowestOut_14 : decode cX7_slowestOut 14 = .ok (.invokevirtual 64, 3) := by decide +kernel
theorem dX7_slowestOut_17 : decode cX7_slowestOut 17 = .ok (.istore 4, 2) := by decide +kernel
theorem dX7_slowestOut_19 : decode cX7_slowestOut 19 = .ok (.iload_n 2, 1) := by decide +kernel
theorem dX7_slowestOut_20 : decode cX7_slowestOut 20 = .ok (.iconst (-1), 1) := by decide +kernel
theorem dX7_slowestOut_21 : decode cX7_slowestOut 21 = .ok (.if_icmp .eq 23, 3) := by decide +kernel
theorem dX7_slowestOut_24 : decode cX7_slowestOut 24 = .ok (.aload_n 0, 1) := by decide +kernel
theorem dX7_slowestOut_25 : decode cX7_slowestOut 25 = .ok (.getfield 14, 3) := by decide +kernel
theorem dX7_slowestOut_28 : decode cX7_slowestOut 28 = .ok (.iload 4, 2) := by decide +kernel
theorem dX7_slowestOut_30 : decode cX7_slowestOut 30 = .ok (.invokevirtual 38, 3) := by decide +kernel
theorem dX7_slowestOut_33 : decode cX7_slowestOut 33 = .ok (.aload_n 0, 1) := by decide +kernel
theorem dX7_slowestOut_34 : decode cX7_slowestOut 34 = .ok (.getfield 14, 3) := by decide +kernel
theorem dX7_slowestOut_37 : decode cX7_slowestOut 37 = .ok (.iload_n 2, 1) := by decide +kernel
theorem dX7_slowestOut_38 : decode cX7_slowestOut 38 = .ok (.invokevirtual 38, 3) := by decide +kernel
theorem dX7_slowestOut_41 : decode cX7_slowestOut 41 = .ok (.if_icmp .le 6, 3) := by decide +kernel
theorem dX7_slowestOut_44 : decode cX7_slowestOut 44 = .ok (.iload 4, 2) := by decide +kernel
theorem dX7_slowestOut_46 : decode cX7_slowestOut 46 = .ok (.istore_n 2, 1) := by decide +kernel
theorem dX7_slowestOut_47 : decode cX7_slowestOut 47 = .ok (.iinc 3 1, 3) := by decide +kernel
theorem dX7_slowestOut_50 : decode cX7_slowestOut 50 = .ok (.goto (-46), 3) := by decide +kernel
theorem dX7_slowestOut_53 : decode cX7_slowestOut 53 = .ok (.iload_n 2, 1) := by decide +kernel
theorem dX7_slowestOut_54 : decode cX7_slowestOut 54 = .ok (.ireturn, 1) := by decide +kernel
set_option maxRecDepth 20000 in
theorem ggX7_slowestSource_X3_isInput : GoodIn wsX7_slowestSource wsX3_isInput := goodIn_r _ [6, 7, 8, 9, 10, 11, 12, 13, 31, 32, 33, 34, 35, 36, 37, 38, 39] (by decide +kernel) (by decide +kernel)
set_option maxRecDepth 20000 in
theorem gX7_slowestSource_X3_isInput : GoodIn wsX7_slowestSource (wsV RX7 30 RX3 yX3_isInput wsX3_isInput) := goodIn_app (goodIn_of _ (by decide +kernel)) ggX7_slowestSource_X3_isInput
set_option maxRecDepth 20000 in
theorem ggX7_slowestSource_X3_firstOf : GoodIn wsX7_slowestSource wsX3_firstOf := goodIn_r _ [17, 18, 8, 9, 10, 11, 12, 13, 31, 32, 33, 34, 35, 36, 37, 38, 39] (by decide +kernel) (by decide +kernel)
set_option maxRecDepth 20000 in
theorem gX7_slowestSource_X3_firstOf : GoodIn wsX7_slowestSource (wsV RX7 34 RX3 yX3_firstOf wsX3_firstOf) := goodIn_app (goodIn_of _ (by decide +kernel)) ggX7_slowestSource_X3_firstOf
set_option maxRecDepth 20000 in
theorem ggX7_slowestSource_X4_at : GoodIn wsX7_slowestSource wsX4_at := goodIn_r _ [12, 13, 39] (by decide +kernel) (by decide +kernel)
set_option maxRecDepth 20000 in
theorem gX7_slowestSource_X4_at : GoodIn wsX7_slowestSource (wsV RX7 38 RX4 yX4_at wsX4_at) := goodIn_app (goodIn_of _ (by decide +kernel)) ggX7_slowestSource_X4_at
set_option maxRecDepth 20000 in
theorem ggX7_slowestSource_X3_kindOf : GoodIn wsX7_slowestSource wsX3_kindOf := goodIn_r _ [23, 7, 8, 9, 10, 11, 12, 13, 31, 32, 33, 34, 35, 36, 37, 38, 39] (by decide +kernel) (by decide +kernel)
set_option maxRecDepth 20000 in
theorem gX7_slowestSource_X3_kindOf : GoodIn wsX7_slowestSource (wsV RX7 50 RX3 yX3_kindOf wsX3_kindOf) := goodIn_app (goodIn_of _ (by decide +kernel)) ggX7_slowestSource_X3_kindOf
set_option maxRecDepth 20000 in
theorem ggX7_slowestSource_X3_secondOf : GoodIn wsX7_slowestSource wsX3_secondOf := goodIn_r _ [27, 28, 8, 9, 10, 11, 12, 13, 31, 32, 33, 34, 35, 36, 37, 38, 39] (by decide +kernel) (by decide +kernel)
set_option maxRecDepth 20000 in
theorem gX7_slowestSource_X3_secondOf : GoodIn wsX7_slowestSource (wsV RX7 41 RX3 yX3_secondOf wsX3_secondOf) := goodIn_app (goodIn_of _ (by decide +kernel)) ggX7_slowestSource_X3_secondOf
theorem dX7_slowestSource_0 : decode cX7_slowestSource 0 = .ok (.aload_n 1, 1) := by decide +kernel
theorem dX7_slowestSource_1 : decode cX7_slowestSource 1 = .ok (.iload_n 3, 1) := by decide +kernel
theorem dX7_slowestSource_2 : decode cX7_slowestSource 2 = .ok (.invokevirtual 30, 3) := by decide +kernel
theorem dX7_slowestSource_5 : decode cX7_slowestSource 5 = .ok (.ifCond .eq 5, 3) := by decide +kernel
theorem dX7_slowestSource_8 : decode cX7_slowestSource 8 = .ok (.iconst (-1), 1) := by decide +kernel
theorem dX7_slowestSource_9 : decode cX7_slowestSource 9 = .ok (.ireturn, 1) := by decide +kernel
theorem dX7_slowestSource_10 : decode cX7_slowestSource 10 = .ok (.aload_n 1, 1) := by decide +kernel
theorem dX7_slowestSource_11 : decode cX7_slowestSource 11 = .ok (.iload_n 3, 1) := by decide +kernel
theorem dX7_slowestSource_12 : decode cX7_slowestSource 12 = .ok (.invokevirtual 34, 3) := by decide +kernel
theorem dX7_slowestSource_15 : decode cX7_slowestSource 15 = .ok (.istore 4, 2) := by decide +kernel
theorem dX7_slowestSource_17 : decode cX7_slowestSource 17 = .ok (.aload_n 0, 1) := by decide +kernel
theorem dX7_slowestSource_18 : decode cX7_slowestSource 18 = .ok (.getfield 14, 3) := by decide +kernel
theorem dX7_slowestSource_21 : decode cX7_slowestSource 21 = .ok (.iload 4, 2) := by decide +kernel
theorem dX7_slowestSource_23 : decode cX7_slowestSource 23 = .ok (.invokevirtual 38, 3) := by decide +kernel
theorem dX7_slowestSource_26 : decode cX7_slowestSource 26 = .ok (.aload_n 2, 1) := by decide +kernel
theorem dX7_slowestSource_27 : decode cX7_slowestSource 27 = .ok (.aload_n 1, 1) := by decide +kernel
theorem dX7_slowestSource_28 : decode cX7_slowestSource 28 = .ok (.iload_n 3, 1) := by decide +kernel
theorem dX7_slowestSource_29 : decode cX7_slowestSource 29 = .ok (.invokevirtual 50, 3) := by decide +kernel
theorem dX7_slowestSource_32 : decode cX7_slowestSource 32 = .ok (.invokevirtual 38, 3) := by decide +kernel
theorem dX7_slowestSource_35 : decode cX7_slowestSource 35 = .ok (.iadd, 1) := by decide +kernel
theorem dX7_slowestSource_36 : decode cX7_slowestSource 36 = .ok (.istore 5, 2) := by decide +kernel
theorem dX7_slowestSource_38 : decode cX7_slowestSource 38 = .ok (.iload 5, 2) := by decide +kernel
theorem dX7_slowestSource_40 : decode cX7_slowestSource 40 = .ok (.aload_n 0, 1) := by decide +kernel
theorem dX7_slowestSource_41 : decode cX7_slowestSource 41 = .ok (.getfield 14, 3) := by decide +kernel
theorem dX7_slowestSource_44 : decode cX7_slowestSource 44 = .ok (.iload_n 3, 1) := by decide +kernel
theorem dX7_slowestSource_45 : decode cX7_slowestSource 45 = .ok (.invokevirtual 38, 3) := by decide +kernel
theorem dX7_slowestSource_48 : decode cX7_slowestSource 48 = .ok (.if_icmp .ne 8, 3) := by decide +kernel
theorem dX7_slowestSource_51 : decode cX7_slowestSource 51 = .ok (.iload 4, 2) := by decide +kernel
theorem dX7_slowestSource_53 : decode cX7_slowestSource 53 = .ok (.goto 8, 3) := by decide +kernel
theorem dX7_slowestSource_56 : decode cX7_slowestSource 56 = .ok (.aload_n 1, 1) := by decide +kernel
theorem dX7_slowestSource_57 : decode cX7_slowestSource 57 = .ok (.iload_n 3, 1) := by decide +kernel
theorem dX7_slowestSource_58 : decode cX7_slowestSource 58 = .ok (.invokevirtual 41, 3) := by decide +kernel
theorem dX7_slowestSource_61 : decode cX7_slowestSource 61 = .ok (.ireturn, 1) := by decide +kernel

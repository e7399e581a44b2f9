set_option maxRecDepth 20000 in
theorem ggX2_init_X4_init : GoodIn wsX2_init wsX4_init := goodIn_r _ [16, 17, 2, 3, 18, 19, 20] (by decide +kernel) (by decide +kernel)
set_option maxRecDepth 20000 in
theorem gX2_init_X4_init : GoodIn wsX2_init (wsX4_init) := ggX2_init_X4_init
theorem dX2_init_0 : decode cX2_init 0 = .ok (.aload_n 0, 1) := by decide +kernel
theorem dX2_init_1 : decode cX2_init 1 = .ok (.invokespecial 3, 3) := by decide +kernel
theorem dX2_init_4 : decode cX2_init 4 = .ok (.aload_n 0, 1) := by decide +kernel
theorem dX2_init_5 : decode cX2_init 5 = .ok (.new 9, 3) := by decide +kernel
theorem dX2_init_8 : decode cX2_init 8 = .ok (.dup, 1) := by decide +kernel
theorem dX2_init_9 : decode cX2_init 9 = .ok (.bipush 6, 2) := by decide +kernel
theorem dX2_init_11 : decode cX2_init 11 = .ok (.invokespecial 13, 3) := by decide +kernel
theorem dX2_init_14 : decode cX2_init 14 = .ok (.putfield 16, 3) := by decide +kernel
theorem dX2_init_17 : decode cX2_init 17 = .ok (.aload_n 0, 1) := by decide +kernel
theorem dX2_init_18 : decode cX2_init 18 = .ok (.new 9, 3) := by decide +kernel
theorem dX2_init_21 : decode cX2_init 21 = .ok (.dup, 1) := by decide +kernel
theorem dX2_init_22 : decode cX2_init 22 = .ok (.bipush 6, 2) := by decide +kernel
theorem dX2_init_24 : decode cX2_init 24 = .ok (.invokespecial 13, 3) := by decide +kernel
theorem dX2_init_27 : decode cX2_init 27 = .ok (.putfield 20, 3) := by decide +kernel
theorem dX2_init_30 : decode cX2_init 30 = .ok (.aload_n 0, 1) := by decide +kernel
theorem dX2_init_31 : decode cX2_init 31 = .ok (.new 9, 3) := by decide +kernel
theorem dX2_init_34 : decode cX2_init 34 = .ok (.dup, 1) := by decide +kernel
theorem dX2_init_35 : decode cX2_init 35 = .ok (.bipush 6, 2) := by decide +kernel
theorem dX2_init_37 : decode cX2_init 37 = .ok (.invokespecial 13, 3) := by decide +kernel
theorem dX2_init_40 : decode cX2_init 40 = .ok (.putfield 23, 3) := by decide +kernel
theorem dX2_init_43 : decode cX2_init 43 = .ok (.aload_n 0, 1) := by decide +kernel
theorem dX2_init_44 : decode cX2_init 44 = .ok (.new 9, 3) := by decide +kernel
theorem dX2_init_47 : decode cX2_init 47 = .ok (.dup, 1) := by decide +kernel
theorem dX2_init_48 : decode cX2_init 48 = .ok (.bipush 6, 2) := by decide +kernel
theorem dX2_init_50 : decode cX2_init 50 = .ok (.invokespecial 13, 3) := by decide +kernel
theorem dX2_init_53 : decode cX2_init 53 = .ok (.putfield 26, 3) := by decide +kernel
theorem dX2_init_56 : decode cX2_init 56 = .ok (.aload_n 0, 1) := by decide +kernel
theorem dX2_init_57 : decode cX2_init 57 = .ok (.new 9, 3) := by decide +kernel
theorem dX2_init_60 : decode cX2_init 60 = .ok (.dup, 1) := by decide +kernel
theorem dX2_init_61 : decode cX2_init 61 = .ok (.bipush 6, 2) := by decide +kernel
theorem dX2_init_63 : decode cX2_init 63 = .ok (.invokespecial 13, 3) := by decide +kernel
theorem dX2_init_66 : decode cX2_init 66 = .ok (.putfield 29, 3) := by decide +kernel
theorem dX2_init_69 : decode cX2_init 69 = .ok (.aload_n 0, 1) := by decide +kernel
theorem dX2_init_70 : decode cX2_init 70 = .ok (.new 9, 3) := by decide +kernel
theorem dX2_init_73 : decode cX2_init 73 = .ok (.dup, 1) := by decide +kernel
theorem dX2_init_74 : decode cX2_init 74 = .ok (.bipush 16, 2) := by decide +kernel
theorem dX2_init_76 : decode cX2_init 76 = .ok (.invokespecial 13, 3) := by decide +kernel
theorem dX2_init_79 : decode cX2_init 79 = .ok (.putfield 32, 3) := by decide +kernel
theorem dX2_init_82 : decode cX2_init 82 = .ok (.aload_n 0, 1) := by decide +kernel
theorem dX2_init_83 : decode cX2_init 83 = .ok (.new 9, 3) := by decide +kernel
theorem dX2_init_86 : decode cX2_init 86 = .ok (.dup, 1) := by decide +kernel
theorem dX2_init_87 : decode cX2_init 87 = .ok (.iconst 5, 1) := by decide +kernel
theorem dX2_init_88 : decode cX2_init 88 = .ok (.invokespecial 13, 3) := by decide +kernel
theorem dX2_init_91 : decode cX2_init 91 = .ok (.putfield 35, 3) := by decide +kernel
theorem dX2_init_94 : decode cX2_init 94 = .ok (.return_, 1) := by decide +kernel
set_option maxRecDepth 20000 in
theorem ggX2_makeRipple_X2_addInputs : GoodIn wsX2_makeRipple wsX2_addInputs := goodIn_r _ [7, 8, 9, 10, 11, 12, 13, 14, 15, 16, 17, 18, 19, 20, 21, 22, 23, 24, 25, 26, 27, 28, 57, 58, 59, 60, 61, 62, 63, 64, 65] (by decide +kernel) (by decide +kernel)
set_option maxRecDepth 20000 in
theorem gX2_makeRipple_X2_addInputs : GoodIn wsX2_makeRipple (wsV RX2 38 RX2 yX2_addInputs wsX2_addInputs) := goodIn_app (goodIn_of _ (by decide +kernel)) ggX2_makeRipple_X2_addInputs
set_option maxRecDepth 20000 in
theorem ggX2_makeRipple_X2_addHalf : GoodIn wsX2_makeRipple wsX2_addHalf := goodIn_r _ [32, 1, 2, 33, 34, 35, 11, 36, 14, 15, 16, 17, 18, 19, 20, 21, 22, 23, 24, 25, 26, 27, 28, 47, 48, 49, 50, 51, 52, 53, 54, 55, 56, 57, 58, 59, 60, 61, 62, 63, 64, 65] (by decide +kernel) (by decide +kernel)
set_option maxRecDepth 20000 in
theorem gX2_makeRipple_X2_addHalf : GoodIn wsX2_makeRipple (wsV RX2 42 RX2 yX2_addHalf wsX2_addHalf) := goodIn_app (goodIn_of _ (by decide +kernel)) ggX2_makeRipple_X2_addHalf
set_option maxRecDepth 20000 in
theorem ggX2_makeRipple_X3_addOut : GoodIn wsX2_makeRipple wsX3_addOut := goodIn_r _ [40, 41, 42, 23, 24, 25, 26, 27, 28, 57, 58, 59, 60, 61, 62, 63, 64, 65] (by decide +kernel) (by decide +kernel)
set_option maxRecDepth 20000 in
theorem gX2_makeRipple_X3_addOut : GoodIn wsX2_makeRipple (wsV RX2 50 RX3 yX3_addOut wsX3_addOut) := goodIn_app (goodIn_of _ (by decide +kernel)) ggX2_makeRipple_X3_addOut
set_option maxRecDepth 20000 in
theorem ggX2_makeRipple_X2_addFull : GoodIn wsX2_makeRipple wsX2_addFull := goodIn_r _ [46, 1, 2, 33, 34, 35, 11, 36, 14, 15, 16, 17, 18, 19, 20, 21, 22, 23, 24, 25, 26, 27, 28, 47, 48, 49, 50, 51, 52, 53, 54, 55, 56, 57, 58, 59, 60, 61, 62, 63, 64, 65] (by decide +kernel) (by decide +kernel)
set_option maxRecDepth 20000 in
theorem gX2_makeRipple_X2_addFull : GoodIn wsX2_makeRipple (wsV RX2 59 RX2 yX2_addFull wsX2_addFull) := goodIn_app (goodIn_of _ (by decide +kernel)) ggX2_makeRipple_X2_addFull
theorem dX2_makeRipple_0 : decode cX2_makeRipple 0 = .ok (.aload_n 0, 1) := by decide +kernel
theorem dX2_makeRipple_1 : decode cX2_makeRipple 1 = .ok (.aload_n 1, 1) := by decide +kernel
theorem dX2_makeRipple_2 : decode cX2_makeRipple 2 = .ok (.iload_n 2, 1) := by decide +kernel
theorem dX2_makeRipple_3 : decode cX2_makeRipple 3 = .ok (.invokevirtual 38, 3) := by decide +kernel
theorem dX2_makeRipple_6 : decode cX2_makeRipple 6 = .ok (.aload_n 0, 1) := by decide +kernel
theorem dX2_makeRipple_7 : decode cX2_makeRipple 7 = .ok (.aload_n 1, 1) := by decide +kernel
theorem dX2_makeRipple_8 : decode cX2_makeRipple 8 = .ok (.iconst 0, 1) := by decide +kernel
theorem dX2_makeRipple_9 : decode cX2_makeRipple 9 = .ok (.iload_n 2, 1) := by decide +kernel
theorem dX2_makeRipple_10 : decode cX2_makeRipple 10 = .ok (.invokevirtual 42, 3) := by decide +kernel
theorem dX2_makeRipple_13 : decode cX2_makeRipple 13 = .ok (.aload_n 1, 1) := by decide +kernel
theorem dX2_makeRipple_14 : decode cX2_makeRipple 14 = .ok (.aload_n 0, 1) := by decide +kernel
theorem dX2_makeRipple_15 : decode cX2_makeRipple 15 = .ok (.getfield 46, 3) := by decide +kernel
theorem dX2_makeRipple_18 : decode cX2_makeRipple 18 = .ok (.invokevirtual 50, 3) := by decide +kernel
theorem dX2_makeRipple_21 : decode cX2_makeRipple 21 = .ok (.pop, 1) := by decide +kernel
theorem dX2_makeRipple_22 : decode cX2_makeRipple 22 = .ok (.iconst 1, 1) := by decide +kernel
theorem dX2_makeRipple_23 : decode cX2_makeRipple 23 = .ok (.istore_n 3, 1) := by decide +kernel
theorem dX2_makeRipple_24 : decode cX2_makeRipple 24 = .ok (.iload_n 3, 1) := by decide +kernel
theorem dX2_makeRipple_25 : decode cX2_makeRipple 25 = .ok (.iload_n 2, 1) := by decide +kernel
theorem dX2_makeRipple_26 : decode cX2_makeRipple 26 = .ok (.if_icmp .ge 31, 3) := by decide +kernel
theorem dX2_makeRipple_29 : decode cX2_makeRipple 29 = .ok (.aload_n 0, 1) := by decide +kernel
theorem dX2_makeRipple_30 : decode cX2_makeRipple 30 = .ok (.aload_n 1, 1) := by decide +kernel
theorem dX2_makeRipple_31 : decode cX2_makeRipple 31 = .ok (.iload_n 3, 1) := by decide +kernel
theorem dX2_makeRipple_32 : decode cX2_makeRipple 32 = .ok (.iload_n 2, 1) := by decide +kernel
theorem dX2_makeRipple_33 : decode cX2_makeRipple 33 = .ok (.iload_n 3, 1) := by decide +kernel
theorem dX2_makeRipple_34 : decode cX2_makeRipple 34 = .ok (.iadd, 1) := by decide +kernel
theorem dX2_makeRipple_35 : decode cX2_makeRipple 35 = .ok (.aload_n 0, 1) := by decide +kernel
theorem dX2_makeRipple_36 : decode cX2_makeRipple 36 = .ok (.getfield 56, 3) := by decide +kernel
theorem dX2_makeRipple_39 : decode cX2_makeRipple 39 = .ok (.invokevirtual 59, 3) := by decide +kernel
theorem dX2_makeRipple_42 : decode cX2_makeRipple 42 = .ok (.aload_n 1, 1) := by decide +kernel
theorem dX2_makeRipple_43 : decode cX2_makeRipple 43 = .ok (.aload_n 0, 1) := by decide +kernel
theorem dX2_makeRipple_44 : decode cX2_makeRipple 44 = .ok (.getfield 46, 3) := by decide +kernel
theorem dX2_makeRipple_47 : decode cX2_makeRipple 47 = .ok (.invokevirtual 50, 3) := by decide +kernel
theorem dX2_makeRipple_50 : decode cX2_makeRipple 50 = .ok (.pop, 1) := by decide +kernel
theorem dX2_makeRipple_51 : decode cX2_makeRipple 51 = .ok (.iinc 3 1, 3) := by decide +kernel
theorem dX2_makeRipple_54 : decode cX2_makeRipple 54 = .ok (.goto (-30), 3) := by decide +kernel
theorem dX2_makeRipple_57 : decode cX2_makeRipple 57 = .ok (.aload_n 1, 1) := by decide +kernel
theorem dX2_makeRipple_58 : decode cX2_makeRipple 58 = .ok (.aload_n 0, 1) := by decide +kernel
theorem dX2_makeRipple_59 : decode cX2_makeRipple 59 = .ok (.getfield 56, 3) := by decide +kernel
theorem dX2_makeRipple_62 : decode cX2_makeRipple 62 = .ok (.invokevirtual 50, 3) := by decide +kernel
theorem dX2_makeRipple_65 : decode cX2_makeRipple 65 = .ok (.pop, 1) := by decide +kernel
theorem dX2_makeRipple_66 : decode cX2_makeRipple 66 = .ok (.return_, 1) := by decide +kernel
set_option maxRecDepth 20000 in
theorem ggX2_makeJoining_X2_addInputs : GoodIn wsX2_makeJoining wsX2_addInputs := goodIn_r _ [10, 11, 12, 13, 14, 15, 16, 17, 18, 19, 20, 21, 22, 23, 24, 25, 26, 27, 28, 29, 30, 31, 75, 76, 77, 78, 79, 80, 81, 82, 83] (by decide +kernel) (by decide +kernel)
set_option maxRecDepth 20000 in
theorem gX2_makeJoining_X2_addInputs : GoodIn wsX2_makeJoining (wsV RX2 38 RX2 yX2_addInputs wsX2_addInputs) := goodIn_app (goodIn_of _ (by decide +kernel)) ggX2_makeJoining_X2_addInputs
set_option maxRecDepth 20000 in
theorem ggX2_makeJoining_X2_addHalf : GoodIn wsX2_makeJoining wsX2_addHalf := goodIn_r _ [35, 2, 5, 36, 37, 38, 14, 39, 17, 18, 19, 20, 21, 22, 23, 24, 25, 26, 27, 28, 29, 30, 31, 65, 66, 67, 68, 69, 70, 71, 72, 73, 74, 75, 76, 77, 78, 79, 80, 81, 82, 83] (by decide +kernel) (by decide +kernel)
set_option maxRecDepth 20000 in
theorem gX2_makeJoining_X2_addHalf : GoodIn wsX2_makeJoining (wsV RX2 42 RX2 yX2_addHalf wsX2_addHalf) := goodIn_app (goodIn_of _ (by decide +kernel)) ggX2_makeJoining_X2_addHalf
set_option maxRecDepth 20000 in
theorem ggX2_makeJoining_X4_put : GoodIn wsX2_makeJoining wsX4_put := goodIn_r _ [30, 31, 83] (by decide +kernel) (by decide +kernel)
set_option maxRecDepth 20000 in
theorem gX2_makeJoining_X4_put : GoodIn wsX2_makeJoining (wsV RX2 63 RX4 yX4_put wsX4_put) := goodIn_app (goodIn_of _ (by decide +kernel)) ggX2_makeJoining_X4_put
set_option maxRecDepth 20000 in
theorem ggX2_makeJoining_X2_addJoins : GoodIn wsX2_makeJoining wsX2_addJoins := goodIn_r _ [44, 45, 3, 46, 4, 47, 48, 49, 29, 50, 31, 51, 52, 53, 54, 55, 56, 9, 57, 58, 36, 37, 38, 14, 39, 17, 18, 19, 20, 21, 22, 23, 24, 25, 26, 27, 28, 30, 40, 65, 66, 67, 68, 69, 70, 71, 72, 73, 74, 83, 75, 76, 77, 78, 79, 80, 81, 82] (by decide +kernel) (by decide +kernel)
set_option maxRecDepth 20000 in
theorem gX2_makeJoining_X2_addJoins : GoodIn wsX2_makeJoining (wsV RX2 67 RX2 yX2_addJoins wsX2_addJoins) := goodIn_app (goodIn_of _ (by decide +kernel)) ggX2_makeJoining_X2_addJoins
set_option maxRecDepth 20000 in
theorem ggX2_makeJoining_X4_at : GoodIn wsX2_makeJoining wsX4_at := goodIn_r _ [54, 31, 83] (by decide +kernel) (by decide +kernel)
set_option maxRecDepth 20000 in
theorem gX2_makeJoining_X4_at : GoodIn wsX2_makeJoining (wsV RX2 71 RX4 yX4_at wsX4_at) := goodIn_app (goodIn_of _ (by decide +kernel)) ggX2_makeJoining_X4_at
set_option maxRecDepth 20000 in
theorem ggX2_makeJoining_X3_addOut : GoodIn wsX2_makeJoining wsX3_addOut := goodIn_r _ [62, 63, 64, 26, 27, 28, 29, 30, 31, 75, 76, 77, 78, 79, 80, 81, 82, 83] (by decide +kernel) (by decide +kernel)
set_option maxRecDepth 20000 in
theorem gX2_makeJoining_X3_addOut : GoodIn wsX2_makeJoining (wsV RX2 50 RX3 yX3_addOut wsX3_addOut) := goodIn_app (goodIn_of _ (by decide +kernel)) ggX2_makeJoining_X3_addOut
set_option maxRecDepth 20000 in
theorem ggX2_makeJoining_X3_addJoined : GoodIn wsX2_makeJoining wsX3_addJoined := goodIn_r _ [39, 17, 18, 19, 14, 20, 21, 22, 23, 24, 25, 26, 27, 28, 29, 30, 31, 75, 76, 77, 78, 79, 80, 81, 82, 83] (by decide +kernel) (by decide +kernel)
set_option maxRecDepth 20000 in
theorem gX2_makeJoining_X3_addJoined : GoodIn wsX2_makeJoining (wsV RX2 74 RX3 yX3_addJoined wsX3_addJoined) := goodIn_app (goodIn_of _ (by decide +kernel)) ggX2_makeJoining_X3_addJoined
theorem dX2_makeJoining_0 : decode cX2_makeJoining 0 = .ok (.aload_n 0, 1) := by decide +kernel
theorem dX2_makeJoining_1 : decode cX2_makeJoining 1 = .ok (.aload_n 1, 1) := by decide +kernel
theorem dX2_makeJoining_2 : decode cX2_makeJoining 2 = .ok (.iload_n 3, 1) := by decide +kernel
theorem dX2_makeJoining_3 : decode cX2_makeJoining 3 = .ok (.invokevirtual 38, 3) := by decide +kernel
theorem dX2_makeJoining_6 : decode cX2_makeJoining 6 = .ok (.iconst 0, 1) := by decide +kernel
theorem dX2_makeJoining_7 : decode cX2_makeJoining 7 = .ok (.istore 4, 2) := by decide +kernel
theorem dX2_makeJoining_9 : decode cX2_makeJoining 9 = .ok (.iload 4, 2) := by decide +kernel
theorem dX2_makeJoining_11 : decode cX2_makeJoining 11 = .ok (.iload_n 3, 1) := by decide +kernel
theorem dX2_makeJoining_12 : decode cX2_makeJoining 12 = .ok (.if_icmp .ge 59, 3) := by decide +kernel
theorem dX2_makeJoining_15 : decode cX2_makeJoining 15 = .ok (.aload_n 0, 1) := by decide +kernel
theorem dX2_makeJoining_16 : decode cX2_makeJoining 16 = .ok (.aload_n 1, 1) := by decide +kernel
theorem dX2_makeJoining_17 : decode cX2_makeJoining 17 = .ok (.iload 4, 2) := by decide +kernel
theorem dX2_makeJoining_19 : decode cX2_makeJoining 19 = .ok (.iload_n 3, 1) := by decide +kernel
theorem dX2_makeJoining_20 : decode cX2_makeJoining 20 = .ok (.iload 4, 2) := by decide +kernel
theorem dX2_makeJoining_22 : decode cX2_makeJoining 22 = .ok (.iadd, 1) := by decide +kernel
theorem dX2_makeJoining_23 : decode cX2_makeJoining 23 = .ok (.invokevirtual 42, 3) := by decide +kernel
theorem dX2_makeJoining_26 : decode cX2_makeJoining 26 = .ok (.aload_n 0, 1) := by decide +kernel
theorem dX2_makeJoining_27 : decode cX2_makeJoining 27 = .ok (.getfield 16, 3) := by decide +kernel
theorem dX2_makeJoining_30 : decode cX2_makeJoining 30 = .ok (.iload 4, 2) := by decide +kernel
theorem dX2_makeJoining_32 : decode cX2_makeJoining 32 = .ok (.aload_n 0, 1) := by decide +kernel
theorem dX2_makeJoining_33 : decode cX2_makeJoining 33 = .ok (.getfield 46, 3) := by decide +kernel
theorem dX2_makeJoining_36 : decode cX2_makeJoining 36 = .ok (.invokevirtual 63, 3) := by decide +kernel
theorem dX2_makeJoining_39 : decode cX2_makeJoining 39 = .ok (.aload_n 0, 1) := by decide +kernel
theorem dX2_makeJoining_40 : decode cX2_makeJoining 40 = .ok (.getfield 20, 3) := by decide +kernel
theorem dX2_makeJoining_43 : decode cX2_makeJoining 43 = .ok (.iload 4, 2) := by decide +kernel
theorem dX2_makeJoining_45 : decode cX2_makeJoining 45 = .ok (.aload_n 0, 1) := by decide +kernel
theorem dX2_makeJoining_46 : decode cX2_makeJoining 46 = .ok (.getfield 46, 3) := by decide +kernel
theorem dX2_makeJoining_49 : decode cX2_makeJoining 49 = .ok (.invokevirtual 63, 3) := by decide +kernel
theorem dX2_makeJoining_52 : decode cX2_makeJoining 52 = .ok (.aload_n 0, 1) := by decide +kernel
theorem dX2_makeJoining_53 : decode cX2_makeJoining 53 = .ok (.getfield 26, 3) := by decide +kernel
theorem dX2_makeJoining_56 : decode cX2_makeJoining 56 = .ok (.iload 4, 2) := by decide +kernel
theorem dX2_makeJoining_58 : decode cX2_makeJoining 58 = .ok (.aload_n 0, 1) := by decide +kernel
theorem dX2_makeJoining_59 : decode cX2_makeJoining 59 = .ok (.getfield 56, 3) := by decide +kernel
theorem dX2_makeJoining_62 : decode cX2_makeJoining 62 = .ok (.invokevirtual 63, 3) := by decide +kernel
theorem dX2_makeJoining_65 : decode cX2_makeJoining 65 = .ok (.iinc 4 1, 3) := by decide +kernel
theorem dX2_makeJoining_68 : decode cX2_makeJoining 68 = .ok (.goto (-59), 3) := by decide +kernel
theorem dX2_makeJoining_71 : decode cX2_makeJoining 71 = .ok (.iconst 1, 1) := by decide +kernel
theorem dX2_makeJoining_72 : decode cX2_makeJoining 72 = .ok (.istore 4, 2) := by decide +kernel
theorem dX2_makeJoining_74 : decode cX2_makeJoining 74 = .ok (.iload 4, 2) := by decide +kernel
theorem dX2_makeJoining_76 : decode cX2_makeJoining 76 = .ok (.iload_n 3, 1) := by decide +kernel
theorem dX2_makeJoining_77 : decode cX2_makeJoining 77 = .ok (.if_icmp .ge 21, 3) := by decide +kernel
theorem dX2_makeJoining_80 : decode cX2_makeJoining 80 = .ok (.aload_n 0, 1) := by decide +kernel
theorem dX2_makeJoining_81 : decode cX2_makeJoining 81 = .ok (.aload_n 1, 1) := by decide +kernel
theorem dX2_makeJoining_82 : decode cX2_makeJoining 82 = .ok (.iload_n 2, 1) := by decide +kernel
theorem dX2_makeJoining_83 : decode cX2_makeJoining 83 = .ok (.iload_n 3, 1) := by decide +kernel
theorem dX2_makeJoining_84 : decode cX2_makeJoining 84 = .ok (.iload 4, 2) := by decide +kernel
theorem dX2_makeJoining_86 : decode cX2_makeJoining 86 = .ok (.invokevirtual 67, 3) := by decide +kernel
theorem dX2_makeJoining_89 : decode cX2_makeJoining 89 = .ok (.iload 4, 2) := by decide +kernel
theorem dX2_makeJoining_91 : decode cX2_makeJoining 91 = .ok (.iconst 2, 1) := by decide +kernel
theorem dX2_makeJoining_92 : decode cX2_makeJoining 92 = .ok (.imul, 1) := by decide +kernel
theorem dX2_makeJoining_93 : decode cX2_makeJoining 93 = .ok (.istore 4, 2) := by decide +kernel
theorem dX2_makeJoining_95 : decode cX2_makeJoining 95 = .ok (.goto (-21), 3) := by decide +kernel
theorem dX2_makeJoining_98 : decode cX2_makeJoining 98 = .ok (.aload_n 1, 1) := by decide +kernel
theorem dX2_makeJoining_99 : decode cX2_makeJoining 99 = .ok (.aload_n 0, 1) := by decide +kernel
theorem dX2_makeJoining_100 : decode cX2_makeJoining 100 = .ok (.getfield 16, 3) := by decide +kernel
theorem dX2_makeJoining_103 : decode cX2_makeJoining 103 = .ok (.iconst 0, 1) := by decide +kernel
theorem dX2_makeJoining_104 : decode cX2_makeJoining 104 = .ok (.invokevirtual 71, 3) := by decide +kernel
theorem dX2_makeJoining_107 : decode cX2_makeJoining 107 = .ok (.invokevirtual 50, 3) := by decide +kernel
theorem dX2_makeJoining_110 : decode cX2_makeJoining 110 = .ok (.pop, 1) := by decide +kernel
theorem dX2_makeJoining_111 : decode cX2_makeJoining 111 = .ok (.iconst 1, 1) := by decide +kernel
theorem dX2_makeJoining_112 : decode cX2_makeJoining 112 = .ok (.istore 4, 2) := by decide +kernel
theorem dX2_makeJoining_114 : decode cX2_makeJoining 114 = .ok (.iload 4, 2) := by decide +kernel
theorem dX2_makeJoining_116 : decode cX2_makeJoining 116 = .ok (.iload_n 3, 1) := by decide +kernel
theorem dX2_makeJoining_117 : decode cX2_makeJoining 117 = .ok (.if_icmp .ge 39, 3) := by decide +kernel
theorem dX2_makeJoining_120 : decode cX2_makeJoining 120 = .ok (.aload_n 1, 1) := by decide +kernel
theorem dX2_makeJoining_121 : decode cX2_makeJoining 121 = .ok (.aload_n 1, 1) := by decide +kernel
theorem dX2_makeJoining_122 : decode cX2_makeJoining 122 = .ok (.iconst 2, 1) := by decide +kernel
theorem dX2_makeJoining_123 : decode cX2_makeJoining 123 = .ok (.aload_n 0, 1) := by decide +kernel
theorem dX2_makeJoining_124 : decode cX2_makeJoining 124 = .ok (.getfield 16, 3) := by decide +kernel
theorem dX2_makeJoining_127 : decode cX2_makeJoining 127 = .ok (.iload 4, 2) := by decide +kernel
theorem dX2_makeJoining_129 : decode cX2_makeJoining 129 = .ok (.invokevirtual 71, 3) := by decide +kernel
theorem dX2_makeJoining_132 : decode cX2_makeJoining 132 = .ok (.aload_n 0, 1) := by decide +kernel
theorem dX2_makeJoining_133 : decode cX2_makeJoining 133 = .ok (.getfield 26, 3) := by decide +kernel
theorem dX2_makeJoining_136 : decode cX2_makeJoining 136 = .ok (.iload 4, 2) := by decide +kernel
theorem dX2_makeJoining_138 : decode cX2_makeJoining 138 = .ok (.iconst 1, 1) := by decide +kernel
theorem dX2_makeJoining_139 : decode cX2_makeJoining 139 = .ok (.isub, 1) := by decide +kernel
theorem dX2_makeJoining_140 : decode cX2_makeJoining 140 = .ok (.invokevirtual 71, 3) := by decide +kernel
theorem dX2_makeJoining_143 : decode cX2_makeJoining 143 = .ok (.invokevirtual 74, 3) := by decide +kernel
theorem dX2_makeJoining_146 : decode cX2_makeJoining 146 = .ok (.invokevirtual 50, 3) := by decide +kernel
theorem dX2_makeJoining_149 : decode cX2_makeJoining 149 = .ok (.pop, 1) := by decide +kernel
theorem dX2_makeJoining_150 : decode cX2_makeJoining 150 = .ok (.iinc 4 1, 3) := by decide +kernel
theorem dX2_makeJoining_153 : decode cX2_makeJoining 153 = .ok (.goto (-39), 3) := by decide +kernel
theorem dX2_makeJoining_156 : decode cX2_makeJoining 156 = .ok (.aload_n 1, 1) := by decide +kernel
theorem dX2_makeJoining_157 : decode cX2_makeJoining 157 = .ok (.aload_n 0, 1) := by decide +kernel
theorem dX2_makeJoining_158 : decode cX2_makeJoining 158 = .ok (.getfield 26, 3) := by decide +kernel
theorem dX2_makeJoining_161 : decode cX2_makeJoining 161 = .ok (.iload_n 3, 1) := by decide +kernel
theorem dX2_makeJoining_162 : decode cX2_makeJoining 162 = .ok (.iconst 1, 1) := by decide +kernel
theorem dX2_makeJoining_163 : decode cX2_makeJoining 163 = .ok (.isub, 1) := by decide +kernel
theorem dX2_makeJoining_164 : decode cX2_makeJoining 164 = .ok (.invokevirtual 71, 3) := by decide +kernel
theorem dX2_makeJoining_167 : decode cX2_makeJoining 167 = .ok (.invokevirtual 50, 3) := by decide +kernel
theorem dX2_makeJoining_170 : decode cX2_makeJoining 170 = .ok (.pop, 1) := by decide +kernel
theorem dX2_makeJoining_171 : decode cX2_makeJoining 171 = .ok (.return_, 1) := by decide +kernel
set_option maxRecDepth 20000 in
theorem ggX2_makeProduct_X2_addInputs : GoodIn wsX2_makeProduct wsX2_addInputs := goodIn_r _ [8, 9, 10, 11, 12, 13, 14, 15, 16, 17, 18, 19, 20, 21, 22, 23, 24, 25, 26, 27, 28, 29, 73, 74, 75, 76, 77, 78, 79, 80, 81] (by decide +kernel) (by decide +kernel)
set_option maxRecDepth 20000 in
theorem gX2_makeProduct_X2_addInputs : GoodIn wsX2_makeProduct (wsV RX2 38 RX2 yX2_addInputs wsX2_addInputs) := goodIn_app (goodIn_of _ (by decide +kernel)) ggX2_makeProduct_X2_addInputs
set_option maxRecDepth 20000 in
theorem ggX2_makeProduct_X3_addJoined : GoodIn wsX2_makeProduct wsX3_addJoined := goodIn_r _ [33, 15, 16, 17, 12, 18, 19, 20, 21, 22, 23, 24, 25, 26, 27, 28, 29, 73, 74, 75, 76, 77, 78, 79, 80, 81] (by decide +kernel) (by decide +kernel)
set_option maxRecDepth 20000 in
theorem gX2_makeProduct_X3_addJoined : GoodIn wsX2_makeProduct (wsV RX2 74 RX3 yX3_addJoined wsX3_addJoined) := goodIn_app (goodIn_of _ (by decide +kernel)) ggX2_makeProduct_X3_addJoined
set_option maxRecDepth 20000 in
theorem ggX2_makeProduct_X4_put : GoodIn wsX2_makeProduct wsX4_put := goodIn_r _ [28, 29, 81] (by decide +kernel) (by decide +kernel)
set_option maxRecDepth 20000 in
theorem gX2_makeProduct_X4_put : GoodIn wsX2_makeProduct (wsV RX2 63 RX4 yX4_put wsX4_put) := goodIn_app (goodIn_of _ (by decide +kernel)) ggX2_makeProduct_X4_put
set_option maxRecDepth 20000 in
theorem ggX2_makeProduct_X4_at : GoodIn wsX2_makeProduct wsX4_at := goodIn_r _ [38, 29, 81] (by decide +kernel) (by decide +kernel)
set_option maxRecDepth 20000 in
theorem gX2_makeProduct_X4_at : GoodIn wsX2_makeProduct (wsV RX2 71 RX4 yX4_at wsX4_at) := goodIn_app (goodIn_of _ (by decide +kernel)) ggX2_makeProduct_X4_at
set_option maxRecDepth 20000 in
theorem ggX2_makeProduct_X2_takeFirstOfLine : GoodIn wsX2_makeProduct wsX2_takeFirstOfLine := goodIn_r _ [42, 2, 3, 35, 36, 37, 27, 38, 29, 34, 25, 26, 28, 63, 64, 65, 66, 67, 68, 69, 70, 71, 72, 81] (by decide +kernel) (by decide +kernel)
set_option maxRecDepth 20000 in
theorem gX2_makeProduct_X2_takeFirstOfLine : GoodIn wsX2_makeProduct (wsV RX2 81 RX2 yX2_takeFirstOfLine wsX2_takeFirstOfLine) := goodIn_app (goodIn_of _ (by decide +kernel)) ggX2_makeProduct_X2_takeFirstOfLine
set_option maxRecDepth 20000 in
theorem ggX2_makeProduct_X3_addOut : GoodIn wsX2_makeProduct wsX3_addOut := goodIn_r _ [46, 47, 48, 24, 25, 26, 27, 28, 29, 73, 74, 75, 76, 77, 78, 79, 80, 81] (by decide +kernel) (by decide +kernel)
set_option maxRecDepth 20000 in
theorem gX2_makeProduct_X3_addOut : GoodIn wsX2_makeProduct (wsV RX2 50 RX3 yX3_addOut wsX3_addOut) := goodIn_app (goodIn_of _ (by decide +kernel)) ggX2_makeProduct_X3_addOut
set_option maxRecDepth 20000 in
theorem ggX2_makeProduct_X2_addToLine : GoodIn wsX2_makeProduct wsX2_addToLine := goodIn_r _ [52, 1, 2, 3, 53, 54, 35, 36, 37, 27, 38, 29, 55, 56, 57, 7, 58, 30, 31, 32, 12, 33, 15, 16, 17, 18, 19, 20, 21, 22, 23, 24, 25, 26, 28, 59, 60, 61, 62, 34, 63, 64, 65, 66, 67, 68, 69, 70, 71, 72, 81, 73, 74, 75, 76, 77, 78, 79, 80] (by decide +kernel) (by decide +kernel)
set_option maxRecDepth 20000 in
theorem gX2_makeProduct_X2_addToLine : GoodIn wsX2_makeProduct (wsV RX2 85 RX2 yX2_addToLine wsX2_addToLine) := goodIn_app (goodIn_of _ (by decide +kernel)) ggX2_makeProduct_X2_addToLine
theorem dX2_makeProduct_0 : decode cX2_makeProduct 0 = .ok (.aload_n 0, 1) := by decide +kernel
theorem dX2_makeProduct_1 : decode cX2_makeProduct 1 = .ok (.aload_n 1, 1) := by decide +kernel
theorem dX2_makeProduct_2 : decode cX2_makeProduct 2 = .ok (.iload_n 2, 1) := by decide +kernel
theorem dX2_makeProduct_3 : decode cX2_makeProduct 3 = .ok (.invokevirtual 38, 3) := by decide +kernel
theorem dX2_makeProduct_6 : decode cX2_makeProduct 6 = .ok (.iconst 0, 1) := by decide +kernel
theorem dX2_makeProduct_7 : decode cX2_makeProduct 7 = .ok (.istore_n 3, 1) := by decide +kernel
theorem dX2_makeProduct_8 : decode cX2_makeProduct 8 = .ok (.iload_n 3, 1) := by decide +kernel
theorem dX2_makeProduct_9 : decode cX2_makeProduct 9 = .ok (.iload_n 2, 1) := by decide +kernel
theorem dX2_makeProduct_10 : decode cX2_makeProduct 10 = .ok (.if_icmp .ge 47, 3) := by decide +kernel
theorem dX2_makeProduct_13 : decode cX2_makeProduct 13 = .ok (.iconst 0, 1) := by decide +kernel
theorem dX2_makeProduct_14 : decode cX2_makeProduct 14 = .ok (.istore 4, 2) := by decide +kernel
theorem dX2_makeProduct_16 : decode cX2_makeProduct 16 = .ok (.iload 4, 2) := by decide +kernel
theorem dX2_makeProduct_18 : decode cX2_makeProduct 18 = .ok (.iload_n 2, 1) := by decide +kernel
theorem dX2_makeProduct_19 : decode cX2_makeProduct 19 = .ok (.if_icmp .ge 32, 3) := by decide +kernel
theorem dX2_makeProduct_22 : decode cX2_makeProduct 22 = .ok (.aload_n 0, 1) := by decide +kernel
theorem dX2_makeProduct_23 : decode cX2_makeProduct 23 = .ok (.getfield 32, 3) := by decide +kernel
theorem dX2_makeProduct_26 : decode cX2_makeProduct 26 = .ok (.iload_n 3, 1) := by decide +kernel
theorem dX2_makeProduct_27 : decode cX2_makeProduct 27 = .ok (.iload_n 2, 1) := by decide +kernel
theorem dX2_makeProduct_28 : decode cX2_makeProduct 28 = .ok (.imul, 1) := by decide +kernel
theorem dX2_makeProduct_29 : decode cX2_makeProduct 29 = .ok (.iload 4, 2) := by decide +kernel
theorem dX2_makeProduct_31 : decode cX2_makeProduct 31 = .ok (.iadd, 1) := by decide +kernel
theorem dX2_makeProduct_32 : decode cX2_makeProduct 32 = .ok (.aload_n 1, 1) := by decide +kernel
theorem dX2_makeProduct_33 : decode cX2_makeProduct 33 = .ok (.iconst 0, 1) := by decide +kernel
theorem dX2_makeProduct_34 : decode cX2_makeProduct 34 = .ok (.iload 4, 2) := by decide +kernel
theorem dX2_makeProduct_36 : decode cX2_makeProduct 36 = .ok (.iload_n 2, 1) := by decide +kernel
theorem dX2_makeProduct_37 : decode cX2_makeProduct 37 = .ok (.iload_n 3, 1) := by decide +kernel
theorem dX2_makeProduct_38 : decode cX2_makeProduct 38 = .ok (.iadd, 1) := by decide +kernel
theorem dX2_makeProduct_39 : decode cX2_makeProduct 39 = .ok (.invokevirtual 74, 3) := by decide +kernel
theorem dX2_makeProduct_42 : decode cX2_makeProduct 42 = .ok (.invokevirtual 63, 3) := by decide +kernel
theorem dX2_makeProduct_45 : decode cX2_makeProduct 45 = .ok (.iinc 4 1, 3) := by decide +kernel
theorem dX2_makeProduct_48 : decode cX2_makeProduct 48 = .ok (.goto (-32), 3) := by decide +kernel
theorem dX2_makeProduct_51 : decode cX2_makeProduct 51 = .ok (.iinc 3 1, 3) := by decide +kernel
theorem dX2_makeProduct_54 : decode cX2_makeProduct 54 = .ok (.goto (-46), 3) := by decide +kernel
theorem dX2_makeProduct_57 : decode cX2_makeProduct 57 = .ok (.iconst 0, 1) := by decide +kernel
theorem dX2_makeProduct_58 : decode cX2_makeProduct 58 = .ok (.istore_n 3, 1) := by decide +kernel
theorem dX2_makeProduct_59 : decode cX2_makeProduct 59 = .ok (.iload_n 3, 1) := by decide +kernel
theorem dX2_makeProduct_60 : decode cX2_makeProduct 60 = .ok (.iload_n 2, 1) := by decide +kernel
theorem dX2_makeProduct_61 : decode cX2_makeProduct 61 = .ok (.if_icmp .ge 25, 3) := by decide +kernel
theorem dX2_makeProduct_64 : decode cX2_makeProduct 64 = .ok (.aload_n 0, 1) := by decide +kernel
theorem dX2_makeProduct_65 : decode cX2_makeProduct 65 = .ok (.getfield 35, 3) := by decide +kernel
theorem dX2_makeProduct_68 : decode cX2_makeProduct 68 = .ok (.iload_n 3, 1) := by decide +kernel
theorem dX2_makeProduct_69 : decode cX2_makeProduct 69 = .ok (.aload_n 0, 1) := by decide +kernel
theorem dX2_makeProduct_70 : decode cX2_makeProduct 70 = .ok (.getfield 32, 3) := by decide +kernel
theorem dX2_makeProduct_73 : decode cX2_makeProduct 73 = .ok (.iload_n 3, 1) := by decide +kernel
theorem dX2_makeProduct_74 : decode cX2_makeProduct 74 = .ok (.invokevirtual 71, 3) := by decide +kernel
theorem dX2_makeProduct_77 : decode cX2_makeProduct 77 = .ok (.invokevirtual 63, 3) := by decide +kernel
theorem dX2_makeProduct_80 : decode cX2_makeProduct 80 = .ok (.iinc 3 1, 3) := by decide +kernel
theorem dX2_makeProduct_83 : decode cX2_makeProduct 83 = .ok (.goto (-24), 3) := by decide +kernel
theorem dX2_makeProduct_86 : decode cX2_makeProduct 86 = .ok (.aload_n 0, 1) := by decide +kernel
theorem dX2_makeProduct_87 : decode cX2_makeProduct 87 = .ok (.iload_n 2, 1) := by decide +kernel
theorem dX2_makeProduct_88 : decode cX2_makeProduct 88 = .ok (.putfield 78, 3) := by decide +kernel
theorem dX2_makeProduct_91 : decode cX2_makeProduct 91 = .ok (.iconst 1, 1) := by decide +kernel
theorem dX2_makeProduct_92 : decode cX2_makeProduct 92 = .ok (.istore_n 3, 1) := by decide +kernel
theorem dX2_makeProduct_93 : decode cX2_makeProduct 93 = .ok (.iload_n 3, 1) := by decide +kernel
theorem dX2_makeProduct_94 : decode cX2_makeProduct 94 = .ok (.iload_n 2, 1) := by decide +kernel
theorem dX2_makeProduct_95 : decode cX2_makeProduct 95 = .ok (.if_icmp .ge 25, 3) := by decide +kernel
theorem dX2_makeProduct_98 : decode cX2_makeProduct 98 = .ok (.aload_n 1, 1) := by decide +kernel
theorem dX2_makeProduct_99 : decode cX2_makeProduct 99 = .ok (.aload_n 0, 1) := by decide +kernel
theorem dX2_makeProduct_100 : decode cX2_makeProduct 100 = .ok (.invokevirtual 81, 3) := by decide +kernel
theorem dX2_makeProduct_103 : decode cX2_makeProduct 103 = .ok (.invokevirtual 50, 3) := by decide +kernel
theorem dX2_makeProduct_106 : decode cX2_makeProduct 106 = .ok (.pop, 1) := by decide +kernel
theorem dX2_makeProduct_107 : decode cX2_makeProduct 107 = .ok (.aload_n 0, 1) := by decide +kernel
theorem dX2_makeProduct_108 : decode cX2_makeProduct 108 = .ok (.aload_n 1, 1) := by decide +kernel
theorem dX2_makeProduct_109 : decode cX2_makeProduct 109 = .ok (.iload_n 2, 1) := by decide +kernel
theorem dX2_makeProduct_110 : decode cX2_makeProduct 110 = .ok (.iload_n 3, 1) := by decide +kernel
theorem dX2_makeProduct_111 : decode cX2_makeProduct 111 = .ok (.invokevirtual 85, 3) := by decide +kernel
theorem dX2_makeProduct_114 : decode cX2_makeProduct 114 = .ok (.iinc 3 1, 3) := by decide +kernel
theorem dX2_makeProduct_117 : decode cX2_makeProduct 117 = .ok (.goto (-24), 3) := by decide +kernel
theorem dX2_makeProduct_120 : decode cX2_makeProduct 120 = .ok (.iconst 0, 1) := by decide +kernel
theorem dX2_makeProduct_121 : decode cX2_makeProduct 121 = .ok (.istore_n 3, 1) := by decide +kernel
theorem dX2_makeProduct_122 : decode cX2_makeProduct 122 = .ok (.iload_n 3, 1) := by decide +kernel
theorem dX2_makeProduct_123 : decode cX2_makeProduct 123 = .ok (.aload_n 0, 1) := by decide +kernel
theorem dX2_makeProduct_124 : decode cX2_makeProduct 124 = .ok (.getfield 78, 3) := by decide +kernel
theorem dX2_makeProduct_127 : decode cX2_makeProduct 127 = .ok (.if_icmp .ge 22, 3) := by decide +kernel
theorem dX2_makeProduct_130 : decode cX2_makeProduct 130 = .ok (.aload_n 1, 1) := by decide +kernel
theorem dX2_makeProduct_131 : decode cX2_makeProduct 131 = .ok (.aload_n 0, 1) := by decide +kernel
theorem dX2_makeProduct_132 : decode cX2_makeProduct 132 = .ok (.getfield 35, 3) := by decide +kernel
theorem dX2_makeProduct_135 : decode cX2_makeProduct 135 = .ok (.iload_n 3, 1) := by decide +kernel
theorem dX2_makeProduct_136 : decode cX2_makeProduct 136 = .ok (.invokevirtual 71, 3) := by decide +kernel
theorem dX2_makeProduct_139 : decode cX2_makeProduct 139 = .ok (.invokevirtual 50, 3) := by decide +kernel
theorem dX2_makeProduct_142 : decode cX2_makeProduct 142 = .ok (.pop, 1) := by decide +kernel
theorem dX2_makeProduct_143 : decode cX2_makeProduct 143 = .ok (.iinc 3 1, 3) := by decide +kernel
theorem dX2_makeProduct_146 : decode cX2_makeProduct 146 = .ok (.goto (-24), 3) := by decide +kernel
theorem dX2_makeProduct_149 : decode cX2_makeProduct 149 = .ok (.return_, 1) := by decide +kernel
set_option maxRecDepth 20000 in
theorem ggX2_addInputs_X3_addInput : GoodIn wsX2_addInputs wsX3_addInput := goodIn_r _ [5, 6, 7, 8, 9, 4, 10, 11, 12, 13, 14, 15, 16, 17, 18, 19, 20, 21, 22, 23, 24, 25, 26, 27, 28, 29, 30] (by decide +kernel) (by decide +kernel)
set_option maxRecDepth 20000 in
theorem gX2_addInputs_X3_addInput : GoodIn wsX2_addInputs (wsV RX2 88 RX3 yX3_addInput wsX3_addInput) := goodIn_app (goodIn_of _ (by decide +kernel)) ggX2_addInputs_X3_addInput
theorem dX2_addInputs_0 : decode cX2_addInputs 0 = .ok (.iconst 0, 1) := by decide +kernel
theorem dX2_addInputs_1 : decode cX2_addInputs 1 = .ok (.istore_n 3, 1) := by decide +kernel
theorem dX2_addInputs_2 : decode cX2_addInputs 2 = .ok (.iload_n 3, 1) := by decide +kernel
theorem dX2_addInputs_3 : decode cX2_addInputs 3 = .ok (.iconst 2, 1) := by decide +kernel
theorem dX2_addInputs_4 : decode cX2_addInputs 4 = .ok (.iload_n 2, 1) := by decide +kernel
theorem dX2_addInputs_5 : decode cX2_addInputs 5 = .ok (.imul, 1) := by decide +kernel
theorem dX2_addInputs_6 : decode cX2_addInputs 6 = .ok (.if_icmp .ge 14, 3) := by decide +kernel
theorem dX2_addInputs_9 : decode cX2_addInputs 9 = .ok (.aload_n 1, 1) := by decide +kernel
theorem dX2_addInputs_10 : decode cX2_addInputs 10 = .ok (.invokevirtual 88, 3) := by decide +kernel
theorem dX2_addInputs_13 : decode cX2_addInputs 13 = .ok (.pop, 1) := by decide +kernel
theorem dX2_addInputs_14 : decode cX2_addInputs 14 = .ok (.iinc 3 1, 3) := by decide +kernel
theorem dX2_addInputs_17 : decode cX2_addInputs 17 = .ok (.goto (-15), 3) := by decide +kernel
theorem dX2_addInputs_20 : decode cX2_addInputs 20 = .ok (.return_, 1) := by decide +kernel
set_option maxRecDepth 20000 in
theorem ggX2_addHalf_X3_addJoined : GoodIn wsX2_addHalf wsX3_addJoined := goodIn_r _ [7, 8, 9, 10, 6, 11, 12, 13, 14, 15, 16, 17, 18, 19, 20, 21, 22, 33, 34, 35, 36, 37, 38, 39, 40, 41] (by decide +kernel) (by decide +kernel)
set_option maxRecDepth 20000 in
theorem gX2_addHalf_X3_addJoined : GoodIn wsX2_addHalf (wsV RX2 74 RX3 yX3_addJoined wsX3_addJoined) := goodIn_app (goodIn_of _ (by decide +kernel)) ggX2_addHalf_X3_addJoined
theorem dX2_addHalf_0 : decode cX2_addHalf 0 = .ok (.aload_n 0, 1) := by decide +kernel
theorem dX2_addHalf_1 : decode cX2_addHalf 1 = .ok (.aload_n 1, 1) := by decide +kernel
theorem dX2_addHalf_2 : decode cX2_addHalf 2 = .ok (.iconst 2, 1) := by decide +kernel
theorem dX2_addHalf_3 : decode cX2_addHalf 3 = .ok (.iload_n 2, 1) := by decide +kernel
theorem dX2_addHalf_4 : decode cX2_addHalf 4 = .ok (.iload_n 3, 1) := by decide +kernel
theorem dX2_addHalf_5 : decode cX2_addHalf 5 = .ok (.invokevirtual 74, 3) := by decide +kernel
theorem dX2_addHalf_8 : decode cX2_addHalf 8 = .ok (.putfield 46, 3) := by decide +kernel
theorem dX2_addHalf_11 : decode cX2_addHalf 11 = .ok (.aload_n 0, 1) := by decide +kernel
theorem dX2_addHalf_12 : decode cX2_addHalf 12 = .ok (.aload_n 1, 1) := by decide +kernel
theorem dX2_addHalf_13 : decode cX2_addHalf 13 = .ok (.iconst 0, 1) := by decide +kernel
theorem dX2_addHalf_14 : decode cX2_addHalf 14 = .ok (.iload_n 2, 1) := by decide +kernel
theorem dX2_addHalf_15 : decode cX2_addHalf 15 = .ok (.iload_n 3, 1) := by decide +kernel
theorem dX2_addHalf_16 : decode cX2_addHalf 16 = .ok (.invokevirtual 74, 3) := by decide +kernel
theorem dX2_addHalf_19 : decode cX2_addHalf 19 = .ok (.putfield 56, 3) := by decide +kernel
theorem dX2_addHalf_22 : decode cX2_addHalf 22 = .ok (.return_, 1) := by decide +kernel
set_option maxRecDepth 20000 in
theorem ggX2_addFull_X3_addJoined : GoodIn wsX2_addFull wsX3_addJoined := goodIn_r _ [7, 8, 9, 10, 6, 11, 12, 13, 14, 15, 16, 17, 18, 19, 20, 21, 22, 33, 34, 35, 36, 37, 38, 39, 40, 41] (by decide +kernel) (by decide +kernel)
set_option maxRecDepth 20000 in
theorem gX2_addFull_X3_addJoined : GoodIn wsX2_addFull (wsV RX2 74 RX3 yX3_addJoined wsX3_addJoined) := goodIn_app (goodIn_of _ (by decide +kernel)) ggX2_addFull_X3_addJoined
theorem dX2_addFull_0 : decode cX2_addFull 0 = .ok (.aload_n 1, 1) := by decide +kernel
theorem dX2_addFull_1 : decode cX2_addFull 1 = .ok (.iconst 2, 1) := by decide +kernel
theorem dX2_addFull_2 : decode cX2_addFull 2 = .ok (.iload_n 2, 1) := by decide +kernel
theorem dX2_addFull_3 : decode cX2_addFull 3 = .ok (.iload_n 3, 1) := by decide +kernel
theorem dX2_addFull_4 : decode cX2_addFull 4 = .ok (.invokevirtual 74, 3) := by decide +kernel
theorem dX2_addFull_7 : decode cX2_addFull 7 = .ok (.istore 5, 2) := by decide +kernel
theorem dX2_addFull_9 : decode cX2_addFull 9 = .ok (.aload_n 0, 1) := by decide +kernel
theorem dX2_addFull_10 : decode cX2_addFull 10 = .ok (.aload_n 1, 1) := by decide +kernel
theorem dX2_addFull_11 : decode cX2_addFull 11 = .ok (.iconst 2, 1) := by decide +kernel
theorem dX2_addFull_12 : decode cX2_addFull 12 = .ok (.iload 5, 2) := by decide +kernel
theorem dX2_addFull_14 : decode cX2_addFull 14 = .ok (.iload 4, 2) := by decide +kernel
theorem dX2_addFull_16 : decode cX2_addFull 16 = .ok (.invokevirtual 74, 3) := by decide +kernel
theorem dX2_addFull_19 : decode cX2_addFull 19 = .ok (.putfield 46, 3) := by decide +kernel
theorem dX2_addFull_22 : decode cX2_addFull 22 = .ok (.aload_n 1, 1) := by decide +kernel
theorem dX2_addFull_23 : decode cX2_addFull 23 = .ok (.iconst 0, 1) := by decide +kernel
theorem dX2_addFull_24 : decode cX2_addFull 24 = .ok (.iload_n 2, 1) := by decide +kernel
theorem dX2_addFull_25 : decode cX2_addFull 25 = .ok (.iload_n 3, 1) := by decide +kernel
theorem dX2_addFull_26 : decode cX2_addFull 26 = .ok (.invokevirtual 74, 3) := by decide +kernel
theorem dX2_addFull_29 : decode cX2_addFull 29 = .ok (.istore 6, 2) := by decide +kernel
theorem dX2_addFull_31 : decode cX2_addFull 31 = .ok (.aload_n 1, 1) := by decide +kernel
theorem dX2_addFull_32 : decode cX2_addFull 32 = .ok (.iconst 0, 1) := by decide +kernel
theorem dX2_addFull_33 : decode cX2_addFull 33 = .ok (.iload 5, 2) := by decide +kernel
theorem dX2_addFull_35 : decode cX2_addFull 35 = .ok (.iload 4, 2) := by decide +kernel
theorem dX2_addFull_37 : decode cX2_addFull 37 = .ok (.invokevirtual 74, 3) := by decide +kernel
theorem dX2_addFull_40 : decode cX2_addFull 40 = .ok (.istore 7, 2) := by decide +kernel
theorem dX2_addFull_42 : decode cX2_addFull 42 = .ok (.aload_n 0, 1) := by decide +kernel
theorem dX2_addFull_43 : decode cX2_addFull 43 = .ok (.aload_n 1, 1) := by decide +kernel
theorem dX2_addFull_44 : decode cX2_addFull 44 = .ok (.iconst 1, 1) := by decide +kernel
theorem dX2_addFull_45 : decode cX2_addFull 45 = .ok (.iload 6, 2) := by decide +kernel
theorem dX2_addFull_47 : decode cX2_addFull 47 = .ok (.iload 7, 2) := by decide +kernel
theorem dX2_addFull_49 : decode cX2_addFull 49 = .ok (.invokevirtual 74, 3) := by decide +kernel
theorem dX2_addFull_52 : decode cX2_addFull 52 = .ok (.putfield 56, 3) := by decide +kernel
theorem dX2_addFull_55 : decode cX2_addFull 55 = .ok (.return_, 1) := by decide +kernel
set_option maxRecDepth 20000 in
theorem ggX2_addJoins_X4_copyFrom : GoodIn wsX2_addJoins wsX4_copyFrom := goodIn_r _ [9, 10, 11, 12, 13, 8, 14, 49] (by decide +kernel) (by decide +kernel)
set_option maxRecDepth 20000 in
theorem gX2_addJoins_X4_copyFrom : GoodIn wsX2_addJoins (wsV RX2 91 RX4 yX4_copyFrom wsX4_copyFrom) := goodIn_app (goodIn_of _ (by decide +kernel)) ggX2_addJoins_X4_copyFrom
set_option maxRecDepth 20000 in
theorem ggX2_addJoins_X2_spreadPartner : GoodIn wsX2_addJoins wsX2_spreadPartner := goodIn_r _ [18] (by decide +kernel) (by decide +kernel)
set_option maxRecDepth 20000 in
theorem gX2_addJoins_X2_spreadPartner : GoodIn wsX2_addJoins (va_wsS RX2 95 yX2_spreadPartner wsX2_spreadPartner) := goodIn_app (goodIn_of _ (by decide +kernel)) ggX2_addJoins_X2_spreadPartner
set_option maxRecDepth 20000 in
theorem ggX2_addJoins_X4_at : GoodIn wsX2_addJoins wsX4_at := goodIn_r _ [14, 10, 49] (by decide +kernel) (by decide +kernel)
set_option maxRecDepth 20000 in
theorem gX2_addJoins_X4_at : GoodIn wsX2_addJoins (wsV RX2 71 RX4 yX4_at wsX4_at) := goodIn_app (goodIn_of _ (by decide +kernel)) ggX2_addJoins_X4_at
set_option maxRecDepth 20000 in
theorem ggX2_addJoins_X3_addJoined : GoodIn wsX2_addJoins wsX3_addJoined := goodIn_r _ [24, 25, 26, 27, 23, 28, 29, 30, 31, 32, 33, 34, 35, 36, 8, 37, 10, 50, 51, 52, 53, 54, 55, 56, 57, 49] (by decide +kernel) (by decide +kernel)
set_option maxRecDepth 20000 in
theorem gX2_addJoins_X3_addJoined : GoodIn wsX2_addJoins (wsV RX2 74 RX3 yX3_addJoined wsX3_addJoined) := goodIn_app (goodIn_of _ (by decide +kernel)) ggX2_addJoins_X3_addJoined
set_option maxRecDepth 20000 in
theorem ggX2_addJoins_X4_put : GoodIn wsX2_addJoins wsX4_put := goodIn_r _ [37, 10, 49] (by decide +kernel) (by decide +kernel)
set_option maxRecDepth 20000 in
theorem gX2_addJoins_X4_put : GoodIn wsX2_addJoins (wsV RX2 63 RX4 yX4_put wsX4_put) := goodIn_app (goodIn_of _ (by decide +kernel)) ggX2_addJoins_X4_put
theorem dX2_addJoins_0 : decode cX2_addJoins 0 = .ok (.aload_n 0, 1) := by decide +kernel
theorem dX2_addJoins_1 : decode cX2_addJoins 1 = .ok (.getfield 23, 3) := by decide +kernel
theorem dX2_addJoins_4 : decode cX2_addJoins 4 = .ok (.aload_n 0, 1) := by decide +kernel
theorem dX2_addJoins_5 : decode cX2_addJoins 5 = .ok (.getfield 20, 3) := by decide +kernel
theorem dX2_addJoins_8 : decode cX2_addJoins 8 = .ok (.invokevirtual 91, 3) := by decide +kernel
theorem dX2_addJoins_11 : decode cX2_addJoins 11 = .ok (.aload_n 0, 1) := by decide +kernel
theorem dX2_addJoins_12 : decode cX2_addJoins 12 = .ok (.getfield 29, 3) := by decide +kernel
theorem dX2_addJoins_15 : decode cX2_addJoins 15 = .ok (.aload_n 0, 1) := by decide +kernel
theorem dX2_addJoins_16 : decode cX2_addJoins 16 = .ok (.getfield 26, 3) := by decide +kernel
theorem dX2_addJoins_19 : decode cX2_addJoins 19 = .ok (.invokevirtual 91, 3) := by decide +kernel
theorem dX2_addJoins_22 : decode cX2_addJoins 22 = .ok (.iconst 0, 1) := by decide +kernel
theorem dX2_addJoins_23 : decode cX2_addJoins 23 = .ok (.istore 5, 2) := by decide +kernel
theorem dX2_addJoins_25 : decode cX2_addJoins 25 = .ok (.iload 5, 2) := by decide +kernel
theorem dX2_addJoins_27 : decode cX2_addJoins 27 = .ok (.iload_n 3, 1) := by decide +kernel
theorem dX2_addJoins_28 : decode cX2_addJoins 28 = .ok (.if_icmp .ge 114, 3) := by decide +kernel
theorem dX2_addJoins_31 : decode cX2_addJoins 31 = .ok (.iload_n 2, 1) := by decide +kernel
theorem dX2_addJoins_32 : decode cX2_addJoins 32 = .ok (.ifCond .eq 13, 3) := by decide +kernel
theorem dX2_addJoins_35 : decode cX2_addJoins 35 = .ok (.iload 5, 2) := by decide +kernel
theorem dX2_addJoins_37 : decode cX2_addJoins 37 = .ok (.iload 4, 2) := by decide +kernel
theorem dX2_addJoins_39 : decode cX2_addJoins 39 = .ok (.invokestatic 95, 3) := by decide +kernel
theorem dX2_addJoins_42 : decode cX2_addJoins 42 = .ok (.goto 8, 3) := by decide +kernel
theorem dX2_addJoins_45 : decode cX2_addJoins 45 = .ok (.iload 5, 2) := by decide +kernel
theorem dX2_addJoins_47 : decode cX2_addJoins 47 = .ok (.iload 4, 2) := by decide +kernel
theorem dX2_addJoins_49 : decode cX2_addJoins 49 = .ok (.isub, 1) := by decide +kernel
theorem dX2_addJoins_50 : decode cX2_addJoins 50 = .ok (.istore 6, 2) := by decide +kernel
theorem dX2_addJoins_52 : decode cX2_addJoins 52 = .ok (.iload 6, 2) := by decide +kernel
theorem dX2_addJoins_54 : decode cX2_addJoins 54 = .ok (.ifCond .lt 82, 3) := by decide +kernel
theorem dX2_addJoins_57 : decode cX2_addJoins 57 = .ok (.aload_n 0, 1) := by decide +kernel
theorem dX2_addJoins_58 : decode cX2_addJoins 58 = .ok (.getfield 23, 3) := by decide +kernel
theorem dX2_addJoins_61 : decode cX2_addJoins 61 = .ok (.iload 5, 2) := by decide +kernel
theorem dX2_addJoins_63 : decode cX2_addJoins 63 = .ok (.invokevirtual 71, 3) := by decide +kernel
theorem dX2_addJoins_66 : decode cX2_addJoins 66 = .ok (.istore 7, 2) := by decide +kernel
theorem dX2_addJoins_68 : decode cX2_addJoins 68 = .ok (.aload_n 1, 1) := by decide +kernel
theorem dX2_addJoins_69 : decode cX2_addJoins 69 = .ok (.iconst 0, 1) := by decide +kernel
theorem dX2_addJoins_70 : decode cX2_addJoins 70 = .ok (.iload 7, 2) := by decide +kernel
theorem dX2_addJoins_72 : decode cX2_addJoins 72 = .ok (.aload_n 0, 1) := by decide +kernel
theorem dX2_addJoins_73 : decode cX2_addJoins 73 = .ok (.getfield 29, 3) := by decide +kernel
theorem dX2_addJoins_76 : decode cX2_addJoins 76 = .ok (.iload 6, 2) := by decide +kernel
theorem dX2_addJoins_78 : decode cX2_addJoins 78 = .ok (.invokevirtual 71, 3) := by decide +kernel
theorem dX2_addJoins_81 : decode cX2_addJoins 81 = .ok (.invokevirtual 74, 3) := by decide +kernel
theorem dX2_addJoins_84 : decode cX2_addJoins 84 = .ok (.istore 8, 2) := by decide +kernel
theorem dX2_addJoins_86 : decode cX2_addJoins 86 = .ok (.aload_n 0, 1) := by decide +kernel
theorem dX2_addJoins_87 : decode cX2_addJoins 87 = .ok (.getfield 26, 3) := by decide +kernel
theorem dX2_addJoins_90 : decode cX2_addJoins 90 = .ok (.iload 5, 2) := by decide +kernel
theorem dX2_addJoins_92 : decode cX2_addJoins 92 = .ok (.aload_n 1, 1) := by decide +kernel
theorem dX2_addJoins_93 : decode cX2_addJoins 93 = .ok (.iconst 1, 1) := by decide +kernel
theorem dX2_addJoins_94 : decode cX2_addJoins 94 = .ok (.aload_n 0, 1) := by decide +kernel
theorem dX2_addJoins_95 : decode cX2_addJoins 95 = .ok (.getfield 29, 3) := by decide +kernel
theorem dX2_addJoins_98 : decode cX2_addJoins 98 = .ok (.iload 5, 2) := by decide +kernel
theorem dX2_addJoins_100 : decode cX2_addJoins 100 = .ok (.invokevirtual 71, 3) := by decide +kernel
theorem dX2_addJoins_103 : decode cX2_addJoins 103 = .ok (.iload 8, 2) := by decide +kernel
theorem dX2_addJoins_105 : decode cX2_addJoins 105 = .ok (.invokevirtual 74, 3) := by decide +kernel
theorem dX2_addJoins_108 : decode cX2_addJoins 108 = .ok (.invokevirtual 63, 3) := by decide +kernel
theorem dX2_addJoins_111 : decode cX2_addJoins 111 = .ok (.aload_n 0, 1) := by decide +kernel
theorem dX2_addJoins_112 : decode cX2_addJoins 112 = .ok (.getfield 20, 3) := by decide +kernel
theorem dX2_addJoins_115 : decode cX2_addJoins 115 = .ok (.iload 5, 2) := by decide +kernel
theorem dX2_addJoins_117 : decode cX2_addJoins 117 = .ok (.aload_n 1, 1) := by decide +kernel
theorem dX2_addJoins_118 : decode cX2_addJoins 118 = .ok (.iconst 0, 1) := by decide +kernel
theorem dX2_addJoins_119 : decode cX2_addJoins 119 = .ok (.iload 7, 2) := by decide +kernel
theorem dX2_addJoins_121 : decode cX2_addJoins 121 = .ok (.aload_n 0, 1) := by decide +kernel
theorem dX2_addJoins_122 : decode cX2_addJoins 122 = .ok (.getfield 23, 3) := by decide +kernel
theorem dX2_addJoins_125 : decode cX2_addJoins 125 = .ok (.iload 6, 2) := by decide +kernel
theorem dX2_addJoins_127 : decode cX2_addJoins 127 = .ok (.invokevirtual 71, 3) := by decide +kernel
theorem dX2_addJoins_130 : decode cX2_addJoins 130 = .ok (.invokevirtual 74, 3) := by decide +kernel
theorem dX2_addJoins_133 : decode cX2_addJoins 133 = .ok (.invokevirtual 63, 3) := by decide +kernel
theorem dX2_addJoins_136 : decode cX2_addJoins 136 = .ok (.iinc 5 1, 3) := by decide +kernel
theorem dX2_addJoins_139 : decode cX2_addJoins 139 = .ok (.goto (-114), 3) := by decide +kernel
theorem dX2_addJoins_142 : decode cX2_addJoins 142 = .ok (.return_, 1) := by decide +kernel
theorem dX2_spreadPartner_0 : decode cX2_spreadPartner 0 = .ok (.iload_n 0, 1) := by decide +kernel
theorem dX2_spreadPartner_1 : decode cX2_spreadPartner 1 = .ok (.iload_n 1, 1) := by decide +kernel
theorem dX2_spreadPartner_2 : decode cX2_spreadPartner 2 = .ok (.iand, 1) := by decide +kernel
theorem dX2_spreadPartner_3 : decode cX2_spreadPartner 3 = .ok (.ifCond .ne 7, 3) := by decide +kernel
theorem dX2_spreadPartner_6 : decode cX2_spreadPartner 6 = .ok (.iconst (-1), 1) := by decide +kernel
theorem dX2_spreadPartner_7 : decode cX2_spreadPartner 7 = .ok (.goto 9, 3) := by decide +kernel
theorem dX2_spreadPartner_10 : decode cX2_spreadPartner 10 = .ok (.iload_n 0, 1) := by decide +kernel
theorem dX2_spreadPartner_11 : decode cX2_spreadPartner 11 = .ok (.iload_n 1, 1) := by decide +kernel
theorem dX2_spreadPartner_12 : decode cX2_spreadPartner 12 = .ok (.ineg, 1) := by decide +kernel
theorem dX2_spreadPartner_13 : decode cX2_spreadPartner 13 = .ok (.iand, 1) := by decide +kernel
theorem dX2_spreadPartner_14 : decode cX2_spreadPartner 14 = .ok (.iconst 1, 1) := by decide +kernel
theorem dX2_spreadPartner_15 : decode cX2_spreadPartner 15 = .ok (.isub, 1) := by decide +kernel
theorem dX2_spreadPartner_16 : decode cX2_spreadPartner 16 = .ok (.ireturn, 1) := by decide +kernel
set_option maxRecDepth 20000 in
theorem ggX2_takeFirstOfLine_X4_at : GoodIn wsX2_takeFirstOfLine wsX4_at := goodIn_r _ [7, 8, 23] (by decide +kernel) (by decide +kernel)
set_option maxRecDepth 20000 in
theorem gX2_takeFirstOfLine_X4_at : GoodIn wsX2_takeFirstOfLine (wsV RX2 71 RX4 yX4_at wsX4_at) := goodIn_app (goodIn_of _ (by decide +kernel)) ggX2_takeFirstOfLine_X4_at
set_option maxRecDepth 20000 in
theorem ggX2_takeFirstOfLine_X4_put : GoodIn wsX2_takeFirstOfLine wsX4_put := goodIn_r _ [12, 8, 23] (by decide +kernel) (by decide +kernel)
set_option maxRecDepth 20000 in
theorem gX2_takeFirstOfLine_X4_put : GoodIn wsX2_takeFirstOfLine (wsV RX2 63 RX4 yX4_put wsX4_put) := goodIn_app (goodIn_of _ (by decide +kernel)) ggX2_takeFirstOfLine_X4_put
theorem dX2_takeFirstOfLine_0 : decode cX2_takeFirstOfLine 0 = .ok (.aload_n 0, 1) := by decide +kernel
theorem dX2_takeFirstOfLine_1 : decode cX2_takeFirstOfLine 1 = .ok (.getfield 35, 3) := by decide +kernel
theorem dX2_takeFirstOfLine_4 : decode cX2_takeFirstOfLine 4 = .ok (.iconst 0, 1) := by decide +kernel
theorem dX2_takeFirstOfLine_5 : decode cX2_takeFirstOfLine 5 = .ok (.invokevirtual 71, 3) := by decide +kernel
theorem dX2_takeFirstOfLine_8 : decode cX2_takeFirstOfLine 8 = .ok (.istore_n 1, 1) := by decide +kernel
theorem dX2_takeFirstOfLine_9 : decode cX2_takeFirstOfLine 9 = .ok (.iconst 1, 1) := by decide +kernel
theorem dX2_takeFirstOfLine_10 : decode cX2_takeFirstOfLine 10 = .ok (.istore_n 2, 1) := by decide +kernel
theorem dX2_takeFirstOfLine_11 : decode cX2_takeFirstOfLine 11 = .ok (.iload_n 2, 1) := by decide +kernel
theorem dX2_takeFirstOfLine_12 : decode cX2_takeFirstOfLine 12 = .ok (.aload_n 0, 1) := by decide +kernel
theorem dX2_takeFirstOfLine_13 : decode cX2_takeFirstOfLine 13 = .ok (.getfield 78, 3) := by decide +kernel
theorem dX2_takeFirstOfLine_16 : decode cX2_takeFirstOfLine 16 = .ok (.if_icmp .ge 27, 3) := by decide +kernel
theorem dX2_takeFirstOfLine_19 : decode cX2_takeFirstOfLine 19 = .ok (.aload_n 0, 1) := by decide +kernel
theorem dX2_takeFirstOfLine_20 : decode cX2_takeFirstOfLine 20 = .ok (.getfield 35, 3) := by decide +kernel
theorem dX2_takeFirstOfLine_23 : decode cX2_takeFirstOfLine 23 = .ok (.iload_n 2, 1) := by decide +kernel
theorem dX2_takeFirstOfLine_24 : decode cX2_takeFirstOfLine 24 = .ok (.iconst 1, 1) := by decide +kernel
theorem dX2_takeFirstOfLine_25 : decode cX2_takeFirstOfLine 25 = .ok (.isub, 1) := by decide +kernel
theorem dX2_takeFirstOfLine_26 : decode cX2_takeFirstOfLine 26 = .ok (.aload_n 0, 1) := by decide +kernel
theorem dX2_takeFirstOfLine_27 : decode cX2_takeFirstOfLine 27 = .ok (.getfield 35, 3) := by decide +kernel
theorem dX2_takeFirstOfLine_30 : decode cX2_takeFirstOfLine 30 = .ok (.iload_n 2, 1) := by decide +kernel
theorem dX2_takeFirstOfLine_31 : decode cX2_takeFirstOfLine 31 = .ok (.invokevirtual 71, 3) := by decide +kernel
theorem dX2_takeFirstOfLine_34 : decode cX2_takeFirstOfLine 34 = .ok (.invokevirtual 63, 3) := by decide +kernel
theorem dX2_takeFirstOfLine_37 : decode cX2_takeFirstOfLine 37 = .ok (.iinc 2 1, 3) := by decide +kernel
theorem dX2_takeFirstOfLine_40 : decode cX2_takeFirstOfLine 40 = .ok (.goto (-29), 3) := by decide +kernel
theorem dX2_takeFirstOfLine_43 : decode cX2_takeFirstOfLine 43 = .ok (.aload_n 0, 1) := by decide +kernel
theorem dX2_takeFirstOfLine_44 : decode cX2_takeFirstOfLine 44 = .ok (.dup, 1) := by decide +kernel
theorem dX2_takeFirstOfLine_45 : decode cX2_takeFirstOfLine 45 = .ok (.getfield 78, 3) := by decide +kernel
theorem dX2_takeFirstOfLine_48 : decode cX2_takeFirstOfLine 48 = .ok (.iconst 1, 1) := by decide +kernel
theorem dX2_takeFirstOfLine_49 : decode cX2_takeFirstOfLine 49 = .ok (.isub, 1) := by decide +kernel
theorem dX2_takeFirstOfLine_50 : decode cX2_takeFirstOfLine 50 = .ok (.putfield 78, 3) := by decide +kernel
theorem dX2_takeFirstOfLine_53 : decode cX2_takeFirstOfLine 53 = .ok (.iload_n 1, 1) := by decide +kernel
theorem dX2_takeFirstOfLine_54 : decode cX2_takeFirstOfLine 54 = .ok (.ireturn, 1) := by decide +kernel
set_option maxRecDepth 20000 in
theorem ggX2_addToLine_X4_at : GoodIn wsX2_addToLine wsX4_at := goodIn_r _ [10, 11, 50] (by decide +kernel) (by decide +kernel)
set_option maxRecDepth 20000 in
theorem gX2_addToLine_X4_at : GoodIn wsX2_addToLine (wsV RX2 71 RX4 yX4_at wsX4_at) := goodIn_app (goodIn_of _ (by decide +kernel)) ggX2_addToLine_X4_at
set_option maxRecDepth 20000 in
theorem ggX2_addToLine_X2_addHalf : GoodIn wsX2_addToLine wsX2_addHalf := goodIn_r _ [16, 5, 4, 17, 18, 19, 20, 21, 22, 23, 24, 25, 26, 27, 28, 29, 30, 31, 32, 33, 9, 34, 11, 40, 41, 42, 43, 44, 45, 46, 47, 48, 49, 51, 52, 53, 54, 55, 56, 57, 58, 50] (by decide +kernel) (by decide +kernel)
set_option maxRecDepth 20000 in
theorem gX2_addToLine_X2_addHalf : GoodIn wsX2_addToLine (wsV RX2 42 RX2 yX2_addHalf wsX2_addHalf) := goodIn_app (goodIn_of _ (by decide +kernel)) ggX2_addToLine_X2_addHalf
set_option maxRecDepth 20000 in
theorem ggX2_addToLine_X2_addFull : GoodIn wsX2_addToLine wsX2_addFull := goodIn_r _ [38, 5, 4, 17, 18, 19, 20, 21, 22, 23, 24, 25, 26, 27, 28, 29, 30, 31, 32, 33, 9, 34, 11, 40, 41, 42, 43, 44, 45, 46, 47, 48, 49, 51, 52, 53, 54, 55, 56, 57, 58, 50] (by decide +kernel) (by decide +kernel)
set_option maxRecDepth 20000 in
theorem gX2_addToLine_X2_addFull : GoodIn wsX2_addToLine (wsV RX2 59 RX2 yX2_addFull wsX2_addFull) := goodIn_app (goodIn_of _ (by decide +kernel)) ggX2_addToLine_X2_addFull
set_option maxRecDepth 20000 in
theorem ggX2_addToLine_X4_put : GoodIn wsX2_addToLine wsX4_put := goodIn_r _ [34, 11, 50] (by decide +kernel) (by decide +kernel)
set_option maxRecDepth 20000 in
theorem gX2_addToLine_X4_put : GoodIn wsX2_addToLine (wsV RX2 63 RX4 yX4_put wsX4_put) := goodIn_app (goodIn_of _ (by decide +kernel)) ggX2_addToLine_X4_put
theorem dX2_addToLine_0 : decode cX2_addToLine 0 = .ok (.iconst 0, 1) := by decide +kernel
theorem dX2_addToLine_1 : decode cX2_addToLine 1 = .ok (.istore 4, 2) := by decide +kernel
theorem dX2_addToLine_3 : decode cX2_addToLine 3 = .ok (.iload 4, 2) := by decide +kernel
theorem dX2_addToLine_5 : decode cX2_addToLine 5 = .ok (.iload_n 2, 1) := by decide +kernel
theorem dX2_addToLine_6 : decode cX2_addToLine 6 = .ok (.if_icmp .ge 104, 3) := by decide +kernel
theorem dX2_addToLine_9 : decode cX2_addToLine 9 = .ok (.aload_n 0, 1) := by decide +kernel
theorem dX2_addToLine_10 : decode cX2_addToLine 10 = .ok (.getfield 32, 3) := by decide +kernel
theorem dX2_addToLine_13 : decode cX2_addToLine 13 = .ok (.iload_n 3, 1) := by decide +kernel
theorem dX2_addToLine_14 : decode cX2_addToLine 14 = .ok (.iload_n 2, 1) := by decide +kernel
theorem dX2_addToLine_15 : decode cX2_addToLine 15 = .ok (.imul, 1) := by decide +kernel
theorem dX2_addToLine_16 : decode cX2_addToLine 16 = .ok (.iload 4, 2) := by decide +kernel
theorem dX2_addToLine_18 : decode cX2_addToLine 18 = .ok (.iadd, 1) := by decide +kernel
theorem dX2_addToLine_19 : decode cX2_addToLine 19 = .ok (.invokevirtual 71, 3) := by decide +kernel
theorem dX2_addToLine_22 : decode cX2_addToLine 22 = .ok (.istore 5, 2) := by decide +kernel
theorem dX2_addToLine_24 : decode cX2_addToLine 24 = .ok (.iload 4, 2) := by decide +kernel
theorem dX2_addToLine_26 : decode cX2_addToLine 26 = .ok (.ifCond .ne 22, 3) := by decide +kernel
theorem dX2_addToLine_29 : decode cX2_addToLine 29 = .ok (.aload_n 0, 1) := by decide +kernel
theorem dX2_addToLine_30 : decode cX2_addToLine 30 = .ok (.aload_n 1, 1) := by decide +kernel
theorem dX2_addToLine_31 : decode cX2_addToLine 31 = .ok (.aload_n 0, 1) := by decide +kernel
theorem dX2_addToLine_32 : decode cX2_addToLine 32 = .ok (.getfield 35, 3) := by decide +kernel
theorem dX2_addToLine_35 : decode cX2_addToLine 35 = .ok (.iload 4, 2) := by decide +kernel
theorem dX2_addToLine_37 : decode cX2_addToLine 37 = .ok (.invokevirtual 71, 3) := by decide +kernel
theorem dX2_addToLine_40 : decode cX2_addToLine 40 = .ok (.iload 5, 2) := by decide +kernel
theorem dX2_addToLine_42 : decode cX2_addToLine 42 = .ok (.invokevirtual 42, 3) := by decide +kernel
theorem dX2_addToLine_45 : decode cX2_addToLine 45 = .ok (.goto 46, 3) := by decide +kernel
theorem dX2_addToLine_48 : decode cX2_addToLine 48 = .ok (.iload 4, 2) := by decide +kernel
theorem dX2_addToLine_50 : decode cX2_addToLine 50 = .ok (.aload_n 0, 1) := by decide +kernel
theorem dX2_addToLine_51 : decode cX2_addToLine 51 = .ok (.getfield 78, 3) := by decide +kernel
theorem dX2_addToLine_54 : decode cX2_addToLine 54 = .ok (.if_icmp .ge 26, 3) := by decide +kernel
theorem dX2_addToLine_57 : decode cX2_addToLine 57 = .ok (.aload_n 0, 1) := by decide +kernel
theorem dX2_addToLine_58 : decode cX2_addToLine 58 = .ok (.aload_n 1, 1) := by decide +kernel
theorem dX2_addToLine_59 : decode cX2_addToLine 59 = .ok (.aload_n 0, 1) := by decide +kernel
theorem dX2_addToLine_60 : decode cX2_addToLine 60 = .ok (.getfield 35, 3) := by decide +kernel
theorem dX2_addToLine_63 : decode cX2_addToLine 63 = .ok (.iload 4, 2) := by decide +kernel
theorem dX2_addToLine_65 : decode cX2_addToLine 65 = .ok (.invokevirtual 71, 3) := by decide +kernel
theorem dX2_addToLine_68 : decode cX2_addToLine 68 = .ok (.iload 5, 2) := by decide +kernel
theorem dX2_addToLine_70 : decode cX2_addToLine 70 = .ok (.aload_n 0, 1) := by decide +kernel
theorem dX2_addToLine_71 : decode cX2_addToLine 71 = .ok (.getfield 56, 3) := by decide +kernel
theorem dX2_addToLine_74 : decode cX2_addToLine 74 = .ok (.invokevirtual 59, 3) := by decide +kernel
theorem dX2_addToLine_77 : decode cX2_addToLine 77 = .ok (.goto 14, 3) := by decide +kernel
theorem dX2_addToLine_80 : decode cX2_addToLine 80 = .ok (.aload_n 0, 1) := by decide +kernel
theorem dX2_addToLine_81 : decode cX2_addToLine 81 = .ok (.aload_n 1, 1) := by decide +kernel
theorem dX2_addToLine_82 : decode cX2_addToLine 82 = .ok (.iload 5, 2) := by decide +kernel
theorem dX2_addToLine_84 : decode cX2_addToLine 84 = .ok (.aload_n 0, 1) := by decide +kernel
theorem dX2_addToLine_85 : decode cX2_addToLine 85 = .ok (.getfield 56, 3) := by decide +kernel
theorem dX2_addToLine_88 : decode cX2_addToLine 88 = .ok (.invokevirtual 42, 3) := by decide +kernel
theorem dX2_addToLine_91 : decode cX2_addToLine 91 = .ok (.aload_n 0, 1) := by decide +kernel
theorem dX2_addToLine_92 : decode cX2_addToLine 92 = .ok (.getfield 35, 3) := by decide +kernel
theorem dX2_addToLine_95 : decode cX2_addToLine 95 = .ok (.iload 4, 2) := by decide +kernel
theorem dX2_addToLine_97 : decode cX2_addToLine 97 = .ok (.aload_n 0, 1) := by decide +kernel
theorem dX2_addToLine_98 : decode cX2_addToLine 98 = .ok (.getfield 46, 3) := by decide +kernel
theorem dX2_addToLine_101 : decode cX2_addToLine 101 = .ok (.invokevirtual 63, 3) := by decide +kernel
theorem dX2_addToLine_104 : decode cX2_addToLine 104 = .ok (.iinc 4 1, 3) := by decide +kernel
theorem dX2_addToLine_107 : decode cX2_addToLine 107 = .ok (.goto (-104), 3) := by decide +kernel
theorem dX2_addToLine_110 : decode cX2_addToLine 110 = .ok (.aload_n 0, 1) := by decide +kernel
theorem dX2_addToLine_111 : decode cX2_addToLine 111 = .ok (.getfield 35, 3) := by decide +kernel
theorem dX2_addToLine_114 : decode cX2_addToLine 114 = .ok (.iload_n 2, 1) := by decide +kernel
theorem dX2_addToLine_115 : decode cX2_addToLine 115 = .ok (.aload_n 0, 1) := by decide +kernel
theorem dX2_addToLine_116 : decode cX2_addToLine 116 = .ok (.getfield 56, 3) := by decide +kernel
theorem dX2_addToLine_119 : decode cX2_addToLine 119 = .ok (.invokevirtual 63, 3) := by decide +kernel
theorem dX2_addToLine_122 : decode cX2_addToLine 122 = .ok (.aload_n 0, 1) := by decide +kernel
theorem dX2_addToLine_123 : decode cX2_addToLine 123 = .ok (.iload_n 2, 1) := by decide +kernel
theorem dX2_addToLine_124 : decode cX2_addToLine 124 = .ok (.iconst 1, 1) := by decide +kernel
theorem dX2_addToLine_125 : decode cX2_addToLine 125 = .ok (.iadd, 1) := by decide +kernel
theorem dX2_addToLine_126 : decode cX2_addToLine 126 = .ok (.putfield 78, 3) := by decide +kernel
theorem dX2_addToLine_129 : decode cX2_addToLine 129 = .ok (.return_, 1) := by decide +kernel

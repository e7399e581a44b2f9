set_option maxRecDepth 20000 in
theorem ggX12_tellsValue_X12_isNumber : GoodIn wsX12_tellsValue wsX12_isNumber := goodIn_r _ [11, 12, 6, 7, 4, 8] (by decide +kernel) (by decide +kernel)
set_option maxRecDepth 20000 in
theorem gX12_tellsValue_X12_isNumber : GoodIn wsX12_tellsValue (va_wsS RX12 125 yX12_isNumber wsX12_isNumber) := goodIn_app (goodIn_of _ (by decide +kernel)) ggX12_tellsValue_X12_isNumber
set_option maxRecDepth 20000 in
theorem ggX12_tellsValue_X12_valueOf : GoodIn wsX12_tellsValue wsX12_valueOf := goodIn_r _ [16, 17, 18, 19, 20, 21, 22, 4, 23, 24, 25, 26, 27, 28, 29, 30, 31, 32, 33, 34, 35, 36, 37, 38, 39, 40, 41, 42, 43, 44, 45, 46, 47, 48, 49, 50, 51, 52, 53, 54] (by decide +kernel) (by decide +kernel)
set_option maxRecDepth 20000 in
theorem gX12_tellsValue_X12_valueOf : GoodIn wsX12_tellsValue (wsV RX12 128 RX12 yX12_valueOf wsX12_valueOf) := goodIn_app (goodIn_of _ (by decide +kernel)) ggX12_tellsValue_X12_valueOf
theorem dX12_tellsValue_0 : decode cX12_tellsValue 0 = .ok (.aload_n 0, 1) := by decide +kernel
theorem dX12_tellsValue_1 : decode cX12_tellsValue 1 = .ok (.iload_n 1, 1) := by decide +kernel
theorem dX12_tellsValue_2 : decode cX12_tellsValue 2 = .ok (.invokestatic 81, 3) := by decide +kernel
theorem dX12_tellsValue_5 : decode cX12_tellsValue 5 = .ok (.ifCond .ne 7, 3) := by decide +kernel
theorem dX12_tellsValue_8 : decode cX12_tellsValue 8 = .ok (.iconst 1, 1) := by decide +kernel
theorem dX12_tellsValue_9 : decode cX12_tellsValue 9 = .ok (.goto 15, 3) := by decide +kernel
theorem dX12_tellsValue_12 : decode cX12_tellsValue 12 = .ok (.iload_n 2, 1) := by decide +kernel
theorem dX12_tellsValue_13 : decode cX12_tellsValue 13 = .ok (.invokestatic 125, 3) := by decide +kernel
theorem dX12_tellsValue_16 : decode cX12_tellsValue 16 = .ok (.ifCond .ne 7, 3) := by decide +kernel
theorem dX12_tellsValue_19 : decode cX12_tellsValue 19 = .ok (.iconst 2, 1) := by decide +kernel
theorem dX12_tellsValue_20 : decode cX12_tellsValue 20 = .ok (.goto 4, 3) := by decide +kernel
theorem dX12_tellsValue_23 : decode cX12_tellsValue 23 = .ok (.iconst 0, 1) := by decide +kernel
theorem dX12_tellsValue_24 : decode cX12_tellsValue 24 = .ok (.putfield 73, 3) := by decide +kernel
theorem dX12_tellsValue_27 : decode cX12_tellsValue 27 = .ok (.aload_n 0, 1) := by decide +kernel
theorem dX12_tellsValue_28 : decode cX12_tellsValue 28 = .ok (.getfield 73, 3) := by decide +kernel
theorem dX12_tellsValue_31 : decode cX12_tellsValue 31 = .ok (.ifCond .le 7, 3) := by decide +kernel
theorem dX12_tellsValue_34 : decode cX12_tellsValue 34 = .ok (.iconst 0, 1) := by decide +kernel
theorem dX12_tellsValue_35 : decode cX12_tellsValue 35 = .ok (.goto 9, 3) := by decide +kernel
theorem dX12_tellsValue_38 : decode cX12_tellsValue 38 = .ok (.aload_n 0, 1) := by decide +kernel
theorem dX12_tellsValue_39 : decode cX12_tellsValue 39 = .ok (.iload_n 1, 1) := by decide +kernel
theorem dX12_tellsValue_40 : decode cX12_tellsValue 40 = .ok (.iload_n 2, 1) := by decide +kernel
theorem dX12_tellsValue_41 : decode cX12_tellsValue 41 = .ok (.invokevirtual 128, 3) := by decide +kernel
theorem dX12_tellsValue_44 : decode cX12_tellsValue 44 = .ok (.ireturn, 1) := by decide +kernel
set_option maxRecDepth 20000 in
theorem ggX12_value_X12_tellsValue : GoodIn wsX12_value wsX12_tellsValue := goodIn_r _ [5, 6, 7, 8, 4, 9, 10, 11, 12, 13, 14, 15, 16, 17, 18, 19, 20, 21, 22, 23, 24, 25, 26, 27, 28, 29, 30, 31, 32, 33, 34, 35, 36, 37, 38, 39, 40, 41, 42, 43, 44, 45, 46, 47, 48, 49, 50, 51, 52, 53, 54, 55, 56, 57, 58] (by decide +kernel) (by decide +kernel)
set_option maxRecDepth 20000 in
theorem gX12_value_X12_tellsValue : GoodIn wsX12_value (wsV RX12 131 RX12 yX12_tellsValue wsX12_tellsValue) := goodIn_app (goodIn_of _ (by decide +kernel)) ggX12_value_X12_tellsValue
theorem dX12_value_0 : decode cX12_value 0 = .ok (.aload_n 0, 1) := by decide +kernel
theorem dX12_value_1 : decode cX12_value 1 = .ok (.iload_n 1, 1) := by decide +kernel
theorem dX12_value_2 : decode cX12_value 2 = .ok (.iload_n 2, 1) := by decide +kernel
theorem dX12_value_3 : decode cX12_value 3 = .ok (.invokevirtual 131, 3) := by decide +kernel
theorem dX12_value_6 : decode cX12_value 6 = .ok (.ireturn, 1) := by decide +kernel
set_option maxRecDepth 20000 in
theorem ggX12_valueAnew_X12_tellsValue : GoodIn wsX12_valueAnew wsX12_tellsValue := goodIn_r _ [5, 6, 7, 8, 4, 9, 10, 11, 12, 13, 14, 15, 16, 17, 18, 19, 20, 21, 22, 23, 24, 25, 26, 27, 28, 29, 30, 31, 32, 33, 34, 35, 36, 37, 38, 39, 40, 41, 42, 43, 44, 45, 46, 47, 48, 49, 50, 51, 52, 53, 54, 55, 56, 57, 58] (by decide +kernel) (by decide +kernel)
set_option maxRecDepth 20000 in
theorem gX12_valueAnew_X12_tellsValue : GoodIn wsX12_valueAnew (wsV RX12 131 RX12 yX12_tellsValue wsX12_tellsValue) := goodIn_app (goodIn_of _ (by decide +kernel)) ggX12_valueAnew_X12_tellsValue
theorem dX12_valueAnew_0 : decode cX12_valueAnew 0 = .ok (.aload_n 0, 1) := by decide +kernel
theorem dX12_valueAnew_1 : decode cX12_valueAnew 1 = .ok (.iload_n 1, 1) := by decide +kernel
theorem dX12_valueAnew_2 : decode cX12_valueAnew 2 = .ok (.iload_n 2, 1) := by decide +kernel
theorem dX12_valueAnew_3 : decode cX12_valueAnew 3 = .ok (.invokevirtual 131, 3) := by decide +kernel
theorem dX12_valueAnew_6 : decode cX12_valueAnew 6 = .ok (.ireturn, 1) := by decide +kernel
theorem dX12_findsTimes_0 : decode cX12_findsTimes 0 = .ok (.iconst 0, 1) := by decide +kernel
theorem dX12_findsTimes_1 : decode cX12_findsTimes 1 = .ok (.istore_n 2, 1) := by decide +kernel
theorem dX12_findsTimes_2 : decode cX12_findsTimes 2 = .ok (.iconst 0, 1) := by decide +kernel
theorem dX12_findsTimes_3 : decode cX12_findsTimes 3 = .ok (.istore_n 3, 1) := by decide +kernel
theorem dX12_findsTimes_4 : decode cX12_findsTimes 4 = .ok (.iload_n 3, 1) := by decide +kernel
theorem dX12_findsTimes_5 : decode cX12_findsTimes 5 = .ok (.aload_n 0, 1) := by decide +kernel
theorem dX12_findsTimes_6 : decode cX12_findsTimes 6 = .ok (.getfield 22, 3) := by decide +kernel
theorem dX12_findsTimes_9 : decode cX12_findsTimes 9 = .ok (.iload_n 1, 1) := by decide +kernel
theorem dX12_findsTimes_10 : decode cX12_findsTimes 10 = .ok (.iaload, 1) := by decide +kernel
theorem dX12_findsTimes_11 : decode cX12_findsTimes 11 = .ok (.if_icmp .ge 117, 3) := by decide +kernel
theorem dX12_findsTimes_14 : decode cX12_findsTimes 14 = .ok (.bipush 120, 2) := by decide +kernel
theorem dX12_findsTimes_16 : decode cX12_findsTimes 16 = .ok (.iload_n 1, 1) := by decide +kernel
theorem dX12_findsTimes_17 : decode cX12_findsTimes 17 = .ok (.imul, 1) := by decide +kernel
theorem dX12_findsTimes_18 : decode cX12_findsTimes 18 = .ok (.iload_n 3, 1) := by decide +kernel
theorem dX12_findsTimes_19 : decode cX12_findsTimes 19 = .ok (.iadd, 1) := by decide +kernel
theorem dX12_findsTimes_20 : decode cX12_findsTimes 20 = .ok (.istore 4, 2) := by decide +kernel
theorem dX12_findsTimes_22 : decode cX12_findsTimes 22 = .ok (.aload_n 0, 1) := by decide +kernel
theorem dX12_findsTimes_23 : decode cX12_findsTimes 23 = .ok (.getfield 43, 3) := by decide +kernel
theorem dX12_findsTimes_26 : decode cX12_findsTimes 26 = .ok (.iload_n 3, 1) := by decide +kernel
theorem dX12_findsTimes_27 : decode cX12_findsTimes 27 = .ok (.iconst 0, 1) := by decide +kernel
theorem dX12_findsTimes_28 : decode cX12_findsTimes 28 = .ok (.iastore, 1) := by decide +kernel
theorem dX12_findsTimes_29 : decode cX12_findsTimes 29 = .ok (.aload_n 0, 1) := by decide +kernel
theorem dX12_findsTimes_30 : decode cX12_findsTimes 30 = .ok (.getfield 7, 3) := by decide +kernel
theorem dX12_findsTimes_33 : decode cX12_findsTimes 33 = .ok (.iload 4, 2) := by decide +kernel
theorem dX12_findsTimes_35 : decode cX12_findsTimes 35 = .ok (.iaload, 1) := by decide +kernel
theorem dX12_findsTimes_36 : decode cX12_findsTimes 36 = .ok (.iconst 4, 1) := by decide +kernel
theorem dX12_findsTimes_37 : decode cX12_findsTimes 37 = .ok (.if_icmp .eq 64, 3) := by decide +kernel
theorem dX12_findsTimes_40 : decode cX12_findsTimes 40 = .ok (.aload_n 0, 1) := by decide +kernel
theorem dX12_findsTimes_41 : decode cX12_findsTimes 41 = .ok (.getfield 43, 3) := by decide +kernel
theorem dX12_findsTimes_44 : decode cX12_findsTimes 44 = .ok (.aload_n 0, 1) := by decide +kernel
theorem dX12_findsTimes_45 : decode cX12_findsTimes 45 = .ok (.getfield 13, 3) := by decide +kernel
theorem dX12_findsTimes_48 : decode cX12_findsTimes 48 = .ok (.iload 4, 2) := by decide +kernel
theorem dX12_findsTimes_50 : decode cX12_findsTimes 50 = .ok (.iaload, 1) := by decide +kernel
theorem dX12_findsTimes_51 : decode cX12_findsTimes 51 = .ok (.iaload, 1) := by decide +kernel
theorem dX12_findsTimes_52 : decode cX12_findsTimes 52 = .ok (.istore 5, 2) := by decide +kernel
theorem dX12_findsTimes_54 : decode cX12_findsTimes 54 = .ok (.aload_n 0, 1) := by decide +kernel
theorem dX12_findsTimes_55 : decode cX12_findsTimes 55 = .ok (.getfield 43, 3) := by decide +kernel
theorem dX12_findsTimes_58 : decode cX12_findsTimes 58 = .ok (.aload_n 0, 1) := by decide +kernel
theorem dX12_findsTimes_59 : decode cX12_findsTimes 59 = .ok (.getfield 16, 3) := by decide +kernel
theorem dX12_findsTimes_62 : decode cX12_findsTimes 62 = .ok (.iload 4, 2) := by decide +kernel
theorem dX12_findsTimes_64 : decode cX12_findsTimes 64 = .ok (.iaload, 1) := by decide +kernel
theorem dX12_findsTimes_65 : decode cX12_findsTimes 65 = .ok (.iaload, 1) := by decide +kernel
theorem dX12_findsTimes_66 : decode cX12_findsTimes 66 = .ok (.istore 6, 2) := by decide +kernel
theorem dX12_findsTimes_68 : decode cX12_findsTimes 68 = .ok (.aload_n 0, 1) := by decide +kernel
theorem dX12_findsTimes_69 : decode cX12_findsTimes 69 = .ok (.getfield 43, 3) := by decide +kernel
theorem dX12_findsTimes_72 : decode cX12_findsTimes 72 = .ok (.iload_n 3, 1) := by decide +kernel
theorem dX12_findsTimes_73 : decode cX12_findsTimes 73 = .ok (.aload_n 0, 1) := by decide +kernel
theorem dX12_findsTimes_74 : decode cX12_findsTimes 74 = .ok (.getfield 34, 3) := by decide +kernel
theorem dX12_findsTimes_77 : decode cX12_findsTimes 77 = .ok (.aload_n 0, 1) := by decide +kernel
theorem dX12_findsTimes_78 : decode cX12_findsTimes 78 = .ok (.getfield 7, 3) := by decide +kernel
theorem dX12_findsTimes_81 : decode cX12_findsTimes 81 = .ok (.iload 4, 2) := by decide +kernel
theorem dX12_findsTimes_83 : decode cX12_findsTimes 83 = .ok (.iaload, 1) := by decide +kernel
theorem dX12_findsTimes_84 : decode cX12_findsTimes 84 = .ok (.iaload, 1) := by decide +kernel
theorem dX12_findsTimes_85 : decode cX12_findsTimes 85 = .ok (.iload 5, 2) := by decide +kernel
theorem dX12_findsTimes_87 : decode cX12_findsTimes 87 = .ok (.iload 6, 2) := by decide +kernel
theorem dX12_findsTimes_89 : decode cX12_findsTimes 89 = .ok (.if_icmp .le 8, 3) := by decide +kernel
theorem dX12_findsTimes_92 : decode cX12_findsTimes 92 = .ok (.iload 5, 2) := by decide +kernel
theorem dX12_findsTimes_94 : decode cX12_findsTimes 94 = .ok (.goto 5, 3) := by decide +kernel
theorem dX12_findsTimes_97 : decode cX12_findsTimes 97 = .ok (.iload 6, 2) := by decide +kernel
theorem dX12_findsTimes_99 : decode cX12_findsTimes 99 = .ok (.iadd, 1) := by decide +kernel
theorem dX12_findsTimes_100 : decode cX12_findsTimes 100 = .ok (.iastore, 1) := by decide +kernel
theorem dX12_findsTimes_101 : decode cX12_findsTimes 101 = .ok (.aload_n 0, 1) := by decide +kernel
theorem dX12_findsTimes_102 : decode cX12_findsTimes 102 = .ok (.getfield 43, 3) := by decide +kernel
theorem dX12_findsTimes_105 : decode cX12_findsTimes 105 = .ok (.iload_n 3, 1) := by decide +kernel
theorem dX12_findsTimes_106 : decode cX12_findsTimes 106 = .ok (.iaload, 1) := by decide +kernel
theorem dX12_findsTimes_107 : decode cX12_findsTimes 107 = .ok (.iload_n 2, 1) := by decide +kernel
theorem dX12_findsTimes_108 : decode cX12_findsTimes 108 = .ok (.if_icmp .le 12, 3) := by decide +kernel
theorem dX12_findsTimes_111 : decode cX12_findsTimes 111 = .ok (.aload_n 0, 1) := by decide +kernel
theorem dX12_findsTimes_112 : decode cX12_findsTimes 112 = .ok (.getfield 43, 3) := by decide +kernel
theorem dX12_findsTimes_115 : decode cX12_findsTimes 115 = .ok (.iload_n 3, 1) := by decide +kernel
theorem dX12_findsTimes_116 : decode cX12_findsTimes 116 = .ok (.iaload, 1) := by decide +kernel
theorem dX12_findsTimes_117 : decode cX12_findsTimes 117 = .ok (.goto 4, 3) := by decide +kernel
theorem dX12_findsTimes_120 : decode cX12_findsTimes 120 = .ok (.iload_n 2, 1) := by decide +kernel
theorem dX12_findsTimes_121 : decode cX12_findsTimes 121 = .ok (.istore_n 2, 1) := by decide +kernel
theorem dX12_findsTimes_122 : decode cX12_findsTimes 122 = .ok (.iinc 3 1, 3) := by decide +kernel
theorem dX12_findsTimes_125 : decode cX12_findsTimes 125 = .ok (.goto (-121), 3) := by decide +kernel
theorem dX12_findsTimes_128 : decode cX12_findsTimes 128 = .ok (.iload_n 2, 1) := by decide +kernel
theorem dX12_findsTimes_129 : decode cX12_findsTimes 129 = .ok (.ireturn, 1) := by decide +kernel
set_option maxRecDepth 20000 in
theorem ggX12_delayOf_X12_findsTimes : GoodIn wsX12_delayOf wsX12_findsTimes := goodIn_r _ [8, 9, 2, 10, 11, 12, 13, 14, 15, 16, 17, 18, 19, 20, 21, 22, 23, 24, 25, 26, 27, 28, 29, 30, 31, 32, 33, 34, 35, 36] (by decide +kernel) (by decide +kernel)
set_option maxRecDepth 20000 in
theorem gX12_delayOf_X12_findsTimes : GoodIn wsX12_delayOf (wsV RX12 134 RX12 yX12_findsTimes wsX12_findsTimes) := goodIn_app (goodIn_of _ (by decide +kernel)) ggX12_delayOf_X12_findsTimes
theorem dX12_delayOf_0 : decode cX12_delayOf 0 = .ok (.aload_n 0, 1) := by decide +kernel
theorem dX12_delayOf_1 : decode cX12_delayOf 1 = .ok (.iload_n 1, 1) := by decide +kernel
theorem dX12_delayOf_2 : decode cX12_delayOf 2 = .ok (.invokevirtual 134, 3) := by decide +kernel
theorem dX12_delayOf_5 : decode cX12_delayOf 5 = .ok (.pop, 1) := by decide +kernel
theorem dX12_delayOf_6 : decode cX12_delayOf 6 = .ok (.iconst 0, 1) := by decide +kernel
theorem dX12_delayOf_7 : decode cX12_delayOf 7 = .ok (.istore_n 2, 1) := by decide +kernel
theorem dX12_delayOf_8 : decode cX12_delayOf 8 = .ok (.iconst 0, 1) := by decide +kernel
theorem dX12_delayOf_9 : decode cX12_delayOf 9 = .ok (.istore_n 3, 1) := by decide +kernel
theorem dX12_delayOf_10 : decode cX12_delayOf 10 = .ok (.iload_n 3, 1) := by decide +kernel
theorem dX12_delayOf_11 : decode cX12_delayOf 11 = .ok (.aload_n 0, 1) := by decide +kernel
theorem dX12_delayOf_12 : decode cX12_delayOf 12 = .ok (.getfield 31, 3) := by decide +kernel
theorem dX12_delayOf_15 : decode cX12_delayOf 15 = .ok (.iload_n 1, 1) := by decide +kernel
theorem dX12_delayOf_16 : decode cX12_delayOf 16 = .ok (.iaload, 1) := by decide +kernel
theorem dX12_delayOf_17 : decode cX12_delayOf 17 = .ok (.if_icmp .ge 40, 3) := by decide +kernel
theorem dX12_delayOf_20 : decode cX12_delayOf 20 = .ok (.aload_n 0, 1) := by decide +kernel
theorem dX12_delayOf_21 : decode cX12_delayOf 21 = .ok (.getfield 43, 3) := by decide +kernel
theorem dX12_delayOf_24 : decode cX12_delayOf 24 = .ok (.aload_n 0, 1) := by decide +kernel
theorem dX12_delayOf_25 : decode cX12_delayOf 25 = .ok (.getfield 28, 3) := by decide +kernel
theorem dX12_delayOf_28 : decode cX12_delayOf 28 = .ok (.bipush 16, 2) := by decide +kernel
theorem dX12_delayOf_30 : decode cX12_delayOf 30 = .ok (.iload_n 1, 1) := by decide +kernel
theorem dX12_delayOf_31 : decode cX12_delayOf 31 = .ok (.imul, 1) := by decide +kernel
theorem dX12_delayOf_32 : decode cX12_delayOf 32 = .ok (.iload_n 3, 1) := by decide +kernel
theorem dX12_delayOf_33 : decode cX12_delayOf 33 = .ok (.iadd, 1) := by decide +kernel
theorem dX12_delayOf_34 : decode cX12_delayOf 34 = .ok (.iaload, 1) := by decide +kernel
theorem dX12_delayOf_35 : decode cX12_delayOf 35 = .ok (.iaload, 1) := by decide +kernel
theorem dX12_delayOf_36 : decode cX12_delayOf 36 = .ok (.istore 4, 2) := by decide +kernel
theorem dX12_delayOf_38 : decode cX12_delayOf 38 = .ok (.iload 4, 2) := by decide +kernel
theorem dX12_delayOf_40 : decode cX12_delayOf 40 = .ok (.iload_n 2, 1) := by decide +kernel
theorem dX12_delayOf_41 : decode cX12_delayOf 41 = .ok (.if_icmp .le 8, 3) := by decide +kernel
theorem dX12_delayOf_44 : decode cX12_delayOf 44 = .ok (.iload 4, 2) := by decide +kernel
theorem dX12_delayOf_46 : decode cX12_delayOf 46 = .ok (.goto 4, 3) := by decide +kernel
theorem dX12_delayOf_49 : decode cX12_delayOf 49 = .ok (.iload_n 2, 1) := by decide +kernel
theorem dX12_delayOf_50 : decode cX12_delayOf 50 = .ok (.istore_n 2, 1) := by decide +kernel
theorem dX12_delayOf_51 : decode cX12_delayOf 51 = .ok (.iinc 3 1, 3) := by decide +kernel
theorem dX12_delayOf_54 : decode cX12_delayOf 54 = .ok (.goto (-44), 3) := by decide +kernel
theorem dX12_delayOf_57 : decode cX12_delayOf 57 = .ok (.iload_n 2, 1) := by decide +kernel
theorem dX12_delayOf_58 : decode cX12_delayOf 58 = .ok (.ireturn, 1) := by decide +kernel
theorem dX12_load_0 : decode cX12_load 0 = .ok (.iconst 0, 1) := by decide +kernel
theorem dX12_load_1 : decode cX12_load 1 = .ok (.istore_n 2, 1) := by decide +kernel
theorem dX12_load_2 : decode cX12_load 2 = .ok (.iload_n 2, 1) := by decide +kernel
theorem dX12_load_3 : decode cX12_load 3 = .ok (.aload_n 0, 1) := by decide +kernel
theorem dX12_load_4 : decode cX12_load 4 = .ok (.getfield 22, 3) := by decide +kernel
theorem dX12_load_7 : decode cX12_load 7 = .ok (.iload_n 1, 1) := by decide +kernel
theorem dX12_load_8 : decode cX12_load 8 = .ok (.iaload, 1) := by decide +kernel
theorem dX12_load_9 : decode cX12_load 9 = .ok (.if_icmp .ge 16, 3) := by decide +kernel
theorem dX12_load_12 : decode cX12_load 12 = .ok (.aload_n 0, 1) := by decide +kernel
theorem dX12_load_13 : decode cX12_load 13 = .ok (.getfield 46, 3) := by decide +kernel
theorem dX12_load_16 : decode cX12_load 16 = .ok (.iload_n 2, 1) := by decide +kernel
theorem dX12_load_17 : decode cX12_load 17 = .ok (.iconst 0, 1) := by decide +kernel
theorem dX12_load_18 : decode cX12_load 18 = .ok (.iastore, 1) := by decide +kernel
theorem dX12_load_19 : decode cX12_load 19 = .ok (.iinc 2 1, 3) := by decide +kernel
theorem dX12_load_22 : decode cX12_load 22 = .ok (.goto (-20), 3) := by decide +kernel
theorem dX12_load_25 : decode cX12_load 25 = .ok (.iconst 0, 1) := by decide +kernel
theorem dX12_load_26 : decode cX12_load 26 = .ok (.istore_n 2, 1) := by decide +kernel
theorem dX12_load_27 : decode cX12_load 27 = .ok (.iload_n 2, 1) := by decide +kernel
theorem dX12_load_28 : decode cX12_load 28 = .ok (.aload_n 0, 1) := by decide +kernel
theorem dX12_load_29 : decode cX12_load 29 = .ok (.getfield 22, 3) := by decide +kernel
theorem dX12_load_32 : decode cX12_load 32 = .ok (.iload_n 1, 1) := by decide +kernel
theorem dX12_load_33 : decode cX12_load 33 = .ok (.iaload, 1) := by decide +kernel
theorem dX12_load_34 : decode cX12_load 34 = .ok (.if_icmp .ge 70, 3) := by decide +kernel
theorem dX12_load_37 : decode cX12_load 37 = .ok (.bipush 120, 2) := by decide +kernel
theorem dX12_load_39 : decode cX12_load 39 = .ok (.iload_n 1, 1) := by decide +kernel
theorem dX12_load_40 : decode cX12_load 40 = .ok (.imul, 1) := by decide +kernel
theorem dX12_load_41 : decode cX12_load 41 = .ok (.iload_n 2, 1) := by decide +kernel
theorem dX12_load_42 : decode cX12_load 42 = .ok (.iadd, 1) := by decide +kernel
theorem dX12_load_43 : decode cX12_load 43 = .ok (.istore_n 3, 1) := by decide +kernel
theorem dX12_load_44 : decode cX12_load 44 = .ok (.aload_n 0, 1) := by decide +kernel
theorem dX12_load_45 : decode cX12_load 45 = .ok (.getfield 7, 3) := by decide +kernel
theorem dX12_load_48 : decode cX12_load 48 = .ok (.iload_n 3, 1) := by decide +kernel
theorem dX12_load_49 : decode cX12_load 49 = .ok (.iaload, 1) := by decide +kernel
theorem dX12_load_50 : decode cX12_load 50 = .ok (.iconst 4, 1) := by decide +kernel
theorem dX12_load_51 : decode cX12_load 51 = .ok (.if_icmp .eq 47, 3) := by decide +kernel
theorem dX12_load_54 : decode cX12_load 54 = .ok (.aload_n 0, 1) := by decide +kernel
theorem dX12_load_55 : decode cX12_load 55 = .ok (.getfield 46, 3) := by decide +kernel
theorem dX12_load_58 : decode cX12_load 58 = .ok (.aload_n 0, 1) := by decide +kernel
theorem dX12_load_59 : decode cX12_load 59 = .ok (.getfield 13, 3) := by decide +kernel
theorem dX12_load_62 : decode cX12_load 62 = .ok (.iload_n 3, 1) := by decide +kernel
theorem dX12_load_63 : decode cX12_load 63 = .ok (.iaload, 1) := by decide +kernel
theorem dX12_load_64 : decode cX12_load 64 = .ok (.dup2, 1) := by decide +kernel
theorem dX12_load_65 : decode cX12_load 65 = .ok (.iaload, 1) := by decide +kernel
theorem dX12_load_66 : decode cX12_load 66 = .ok (.iconst 1, 1) := by decide +kernel
theorem dX12_load_67 : decode cX12_load 67 = .ok (.iadd, 1) := by decide +kernel
theorem dX12_load_68 : decode cX12_load 68 = .ok (.iastore, 1) := by decide +kernel
theorem dX12_load_69 : decode cX12_load 69 = .ok (.aload_n 0, 1) := by decide +kernel
theorem dX12_load_70 : decode cX12_load 70 = .ok (.getfield 46, 3) := by decide +kernel
theorem dX12_load_73 : decode cX12_load 73 = .ok (.aload_n 0, 1) := by decide +kernel
theorem dX12_load_74 : decode cX12_load 74 = .ok (.getfield 16, 3) := by decide +kernel
theorem dX12_load_77 : decode cX12_load 77 = .ok (.iload_n 3, 1) := by decide +kernel
theorem dX12_load_78 : decode cX12_load 78 = .ok (.iaload, 1) := by decide +kernel
theorem dX12_load_79 : decode cX12_load 79 = .ok (.dup2, 1) := by decide +kernel
theorem dX12_load_80 : decode cX12_load 80 = .ok (.iaload, 1) := by decide +kernel
theorem dX12_load_81 : decode cX12_load 81 = .ok (.aload_n 0, 1) := by decide +kernel
theorem dX12_load_82 : decode cX12_load 82 = .ok (.getfield 7, 3) := by decide +kernel
theorem dX12_load_85 : decode cX12_load 85 = .ok (.iload_n 3, 1) := by decide +kernel
theorem dX12_load_86 : decode cX12_load 86 = .ok (.iaload, 1) := by decide +kernel
theorem dX12_load_87 : decode cX12_load 87 = .ok (.iconst 3, 1) := by decide +kernel
theorem dX12_load_88 : decode cX12_load 88 = .ok (.if_icmp .ne 7, 3) := by decide +kernel
theorem dX12_load_91 : decode cX12_load 91 = .ok (.iconst 0, 1) := by decide +kernel
theorem dX12_load_92 : decode cX12_load 92 = .ok (.goto 4, 3) := by decide +kernel
theorem dX12_load_95 : decode cX12_load 95 = .ok (.iconst 1, 1) := by decide +kernel
theorem dX12_load_96 : decode cX12_load 96 = .ok (.iadd, 1) := by decide +kernel
theorem dX12_load_97 : decode cX12_load 97 = .ok (.iastore, 1) := by decide +kernel
theorem dX12_load_98 : decode cX12_load 98 = .ok (.iinc 2 1, 3) := by decide +kernel
theorem dX12_load_101 : decode cX12_load 101 = .ok (.goto (-74), 3) := by decide +kernel
theorem dX12_load_104 : decode cX12_load 104 = .ok (.iconst 0, 1) := by decide +kernel
theorem dX12_load_105 : decode cX12_load 105 = .ok (.istore_n 2, 1) := by decide +kernel
theorem dX12_load_106 : decode cX12_load 106 = .ok (.iload_n 2, 1) := by decide +kernel
theorem dX12_load_107 : decode cX12_load 107 = .ok (.aload_n 0, 1) := by decide +kernel
theorem dX12_load_108 : decode cX12_load 108 = .ok (.getfield 31, 3) := by decide +kernel
theorem dX12_load_111 : decode cX12_load 111 = .ok (.iload_n 1, 1) := by decide +kernel
theorem dX12_load_112 : decode cX12_load 112 = .ok (.iaload, 1) := by decide +kernel
theorem dX12_load_113 : decode cX12_load 113 = .ok (.if_icmp .ge 29, 3) := by decide +kernel
theorem dX12_load_116 : decode cX12_load 116 = .ok (.aload_n 0, 1) := by decide +kernel
theorem dX12_load_117 : decode cX12_load 117 = .ok (.getfield 46, 3) := by decide +kernel
theorem dX12_load_120 : decode cX12_load 120 = .ok (.aload_n 0, 1) := by decide +kernel
theorem dX12_load_121 : decode cX12_load 121 = .ok (.getfield 28, 3) := by decide +kernel
theorem dX12_load_124 : decode cX12_load 124 = .ok (.bipush 16, 2) := by decide +kernel
theorem dX12_load_126 : decode cX12_load 126 = .ok (.iload_n 1, 1) := by decide +kernel
theorem dX12_load_127 : decode cX12_load 127 = .ok (.imul, 1) := by decide +kernel
theorem dX12_load_128 : decode cX12_load 128 = .ok (.iload_n 2, 1) := by decide +kernel
theorem dX12_load_129 : decode cX12_load 129 = .ok (.iadd, 1) := by decide +kernel
theorem dX12_load_130 : decode cX12_load 130 = .ok (.iaload, 1) := by decide +kernel
theorem dX12_load_131 : decode cX12_load 131 = .ok (.dup2, 1) := by decide +kernel
theorem dX12_load_132 : decode cX12_load 132 = .ok (.iaload, 1) := by decide +kernel
theorem dX12_load_133 : decode cX12_load 133 = .ok (.iconst 1, 1) := by decide +kernel
theorem dX12_load_134 : decode cX12_load 134 = .ok (.iadd, 1) := by decide +kernel
theorem dX12_load_135 : decode cX12_load 135 = .ok (.iastore, 1) := by decide +kernel
theorem dX12_load_136 : decode cX12_load 136 = .ok (.iinc 2 1, 3) := by decide +kernel
theorem dX12_load_139 : decode cX12_load 139 = .ok (.goto (-33), 3) := by decide +kernel
theorem dX12_load_142 : decode cX12_load 142 = .ok (.iconst 0, 1) := by decide +kernel
theorem dX12_load_143 : decode cX12_load 143 = .ok (.istore_n 2, 1) := by decide +kernel
theorem dX12_load_144 : decode cX12_load 144 = .ok (.iconst 0, 1) := by decide +kernel
theorem dX12_load_145 : decode cX12_load 145 = .ok (.istore_n 3, 1) := by decide +kernel
theorem dX12_load_146 : decode cX12_load 146 = .ok (.iload_n 3, 1) := by decide +kernel
theorem dX12_load_147 : decode cX12_load 147 = .ok (.aload_n 0, 1) := by decide +kernel
theorem dX12_load_148 : decode cX12_load 148 = .ok (.getfield 22, 3) := by decide +kernel
theorem dX12_load_151 : decode cX12_load 151 = .ok (.iload_n 1, 1) := by decide +kernel
theorem dX12_load_152 : decode cX12_load 152 = .ok (.iaload, 1) := by decide +kernel
theorem dX12_load_153 : decode cX12_load 153 = .ok (.if_icmp .ge 30, 3) := by decide +kernel
theorem dX12_load_156 : decode cX12_load 156 = .ok (.aload_n 0, 1) := by decide +kernel
theorem dX12_load_157 : decode cX12_load 157 = .ok (.getfield 46, 3) := by decide +kernel
theorem dX12_load_160 : decode cX12_load 160 = .ok (.iload_n 3, 1) := by decide +kernel
theorem dX12_load_161 : decode cX12_load 161 = .ok (.iaload, 1) := by decide +kernel
theorem dX12_load_162 : decode cX12_load 162 = .ok (.iload_n 2, 1) := by decide +kernel
theorem dX12_load_163 : decode cX12_load 163 = .ok (.if_icmp .le 12, 3) := by decide +kernel
theorem dX12_load_166 : decode cX12_load 166 = .ok (.aload_n 0, 1) := by decide +kernel
theorem dX12_load_167 : decode cX12_load 167 = .ok (.getfield 46, 3) := by decide +kernel
theorem dX12_load_170 : decode cX12_load 170 = .ok (.iload_n 3, 1) := by decide +kernel
theorem dX12_load_171 : decode cX12_load 171 = .ok (.iaload, 1) := by decide +kernel
theorem dX12_load_172 : decode cX12_load 172 = .ok (.goto 4, 3) := by decide +kernel
theorem dX12_load_175 : decode cX12_load 175 = .ok (.iload_n 2, 1) := by decide +kernel
theorem dX12_load_176 : decode cX12_load 176 = .ok (.istore_n 2, 1) := by decide +kernel
theorem dX12_load_177 : decode cX12_load 177 = .ok (.iinc 3 1, 3) := by decide +kernel
theorem dX12_load_180 : decode cX12_load 180 = .ok (.goto (-34), 3) := by decide +kernel
theorem dX12_load_183 : decode cX12_load 183 = .ok (.iload_n 2, 1) := by decide +kernel
theorem dX12_load_184 : decode cX12_load 184 = .ok (.ireturn, 1) := by decide +kernel
theorem dX12_idle_0 : decode cX12_idle 0 = .ok (.iconst 0, 1) := by decide +kernel
theorem dX12_idle_1 : decode cX12_idle 1 = .ok (.istore_n 2, 1) := by decide +kernel
theorem dX12_idle_2 : decode cX12_idle 2 = .ok (.iload_n 2, 1) := by decide +kernel
theorem dX12_idle_3 : decode cX12_idle 3 = .ok (.aload_n 0, 1) := by decide +kernel
theorem dX12_idle_4 : decode cX12_idle 4 = .ok (.getfield 22, 3) := by decide +kernel
theorem dX12_idle_7 : decode cX12_idle 7 = .ok (.iload_n 1, 1) := by decide +kernel
theorem dX12_idle_8 : decode cX12_idle 8 = .ok (.iaload, 1) := by decide +kernel
theorem dX12_idle_9 : decode cX12_idle 9 = .ok (.if_icmp .ge 16, 3) := by decide +kernel
theorem dX12_idle_12 : decode cX12_idle 12 = .ok (.aload_n 0, 1) := by decide +kernel
theorem dX12_idle_13 : decode cX12_idle 13 = .ok (.getfield 46, 3) := by decide +kernel
theorem dX12_idle_16 : decode cX12_idle 16 = .ok (.iload_n 2, 1) := by decide +kernel
theorem dX12_idle_17 : decode cX12_idle 17 = .ok (.iconst 0, 1) := by decide +kernel
theorem dX12_idle_18 : decode cX12_idle 18 = .ok (.iastore, 1) := by decide +kernel
theorem dX12_idle_19 : decode cX12_idle 19 = .ok (.iinc 2 1, 3) := by decide +kernel
theorem dX12_idle_22 : decode cX12_idle 22 = .ok (.goto (-20), 3) := by decide +kernel
theorem dX12_idle_25 : decode cX12_idle 25 = .ok (.iconst 0, 1) := by decide +kernel
theorem dX12_idle_26 : decode cX12_idle 26 = .ok (.istore_n 2, 1) := by decide +kernel
theorem dX12_idle_27 : decode cX12_idle 27 = .ok (.iload_n 2, 1) := by decide +kernel
theorem dX12_idle_28 : decode cX12_idle 28 = .ok (.aload_n 0, 1) := by decide +kernel
theorem dX12_idle_29 : decode cX12_idle 29 = .ok (.getfield 31, 3) := by decide +kernel
theorem dX12_idle_32 : decode cX12_idle 32 = .ok (.iload_n 1, 1) := by decide +kernel
theorem dX12_idle_33 : decode cX12_idle 33 = .ok (.iaload, 1) := by decide +kernel
theorem dX12_idle_34 : decode cX12_idle 34 = .ok (.if_icmp .ge 26, 3) := by decide +kernel
theorem dX12_idle_37 : decode cX12_idle 37 = .ok (.aload_n 0, 1) := by decide +kernel
theorem dX12_idle_38 : decode cX12_idle 38 = .ok (.getfield 46, 3) := by decide +kernel
theorem dX12_idle_41 : decode cX12_idle 41 = .ok (.aload_n 0, 1) := by decide +kernel
theorem dX12_idle_42 : decode cX12_idle 42 = .ok (.getfield 28, 3) := by decide +kernel
theorem dX12_idle_45 : decode cX12_idle 45 = .ok (.bipush 16, 2) := by decide +kernel
theorem dX12_idle_47 : decode cX12_idle 47 = .ok (.iload_n 1, 1) := by decide +kernel
theorem dX12_idle_48 : decode cX12_idle 48 = .ok (.imul, 1) := by decide +kernel
theorem dX12_idle_49 : decode cX12_idle 49 = .ok (.iload_n 2, 1) := by decide +kernel
theorem dX12_idle_50 : decode cX12_idle 50 = .ok (.iadd, 1) := by decide +kernel
theorem dX12_idle_51 : decode cX12_idle 51 = .ok (.iaload, 1) := by decide +kernel
theorem dX12_idle_52 : decode cX12_idle 52 = .ok (.iconst 1, 1) := by decide +kernel
theorem dX12_idle_53 : decode cX12_idle 53 = .ok (.iastore, 1) := by decide +kernel
theorem dX12_idle_54 : decode cX12_idle 54 = .ok (.iinc 2 1, 3) := by decide +kernel
theorem dX12_idle_57 : decode cX12_idle 57 = .ok (.goto (-30), 3) := by decide +kernel
theorem dX12_idle_60 : decode cX12_idle 60 = .ok (.iconst 0, 1) := by decide +kernel
theorem dX12_idle_61 : decode cX12_idle 61 = .ok (.istore_n 2, 1) := by decide +kernel
theorem dX12_idle_62 : decode cX12_idle 62 = .ok (.aload_n 0, 1) := by decide +kernel
theorem dX12_idle_63 : decode cX12_idle 63 = .ok (.getfield 22, 3) := by decide +kernel
theorem dX12_idle_66 : decode cX12_idle 66 = .ok (.iload_n 1, 1) := by decide +kernel
theorem dX12_idle_67 : decode cX12_idle 67 = .ok (.iaload, 1) := by decide +kernel
theorem dX12_idle_68 : decode cX12_idle 68 = .ok (.iconst 1, 1) := by decide +kernel
theorem dX12_idle_69 : decode cX12_idle 69 = .ok (.isub, 1) := by decide +kernel
theorem dX12_idle_70 : decode cX12_idle 70 = .ok (.istore_n 3, 1) := by decide +kernel
theorem dX12_idle_71 : decode cX12_idle 71 = .ok (.iload_n 3, 1) := by decide +kernel
theorem dX12_idle_72 : decode cX12_idle 72 = .ok (.ifCond .lt 87, 3) := by decide +kernel
theorem dX12_idle_75 : decode cX12_idle 75 = .ok (.bipush 120, 2) := by decide +kernel
theorem dX12_idle_77 : decode cX12_idle 77 = .ok (.iload_n 1, 1) := by decide +kernel
theorem dX12_idle_78 : decode cX12_idle 78 = .ok (.imul, 1) := by decide +kernel
theorem dX12_idle_79 : decode cX12_idle 79 = .ok (.iload_n 3, 1) := by decide +kernel
theorem dX12_idle_80 : decode cX12_idle 80 = .ok (.iadd, 1) := by decide +kernel
theorem dX12_idle_81 : decode cX12_idle 81 = .ok (.istore 4, 2) := by decide +kernel
theorem dX12_idle_83 : decode cX12_idle 83 = .ok (.aload_n 0, 1) := by decide +kernel
theorem dX12_idle_84 : decode cX12_idle 84 = .ok (.getfield 7, 3) := by decide +kernel
theorem dX12_idle_87 : decode cX12_idle 87 = .ok (.iload 4, 2) := by decide +kernel
theorem dX12_idle_89 : decode cX12_idle 89 = .ok (.iaload, 1) := by decide +kernel
theorem dX12_idle_90 : decode cX12_idle 90 = .ok (.iconst 4, 1) := by decide +kernel
theorem dX12_idle_91 : decode cX12_idle 91 = .ok (.if_icmp .eq 62, 3) := by decide +kernel
theorem dX12_idle_94 : decode cX12_idle 94 = .ok (.iload_n 2, 1) := by decide +kernel
theorem dX12_idle_95 : decode cX12_idle 95 = .ok (.aload_n 0, 1) := by decide +kernel
theorem dX12_idle_96 : decode cX12_idle 96 = .ok (.getfield 46, 3) := by decide +kernel
theorem dX12_idle_99 : decode cX12_idle 99 = .ok (.iload_n 3, 1) := by decide +kernel
theorem dX12_idle_100 : decode cX12_idle 100 = .ok (.iaload, 1) := by decide +kernel
theorem dX12_idle_101 : decode cX12_idle 101 = .ok (.ifCond .ne 7, 3) := by decide +kernel
theorem dX12_idle_104 : decode cX12_idle 104 = .ok (.iconst 1, 1) := by decide +kernel
theorem dX12_idle_105 : decode cX12_idle 105 = .ok (.goto 4, 3) := by decide +kernel
theorem dX12_idle_108 : decode cX12_idle 108 = .ok (.iconst 0, 1) := by decide +kernel
theorem dX12_idle_109 : decode cX12_idle 109 = .ok (.iadd, 1) := by decide +kernel
theorem dX12_idle_110 : decode cX12_idle 110 = .ok (.istore_n 2, 1) := by decide +kernel
theorem dX12_idle_111 : decode cX12_idle 111 = .ok (.aload_n 0, 1) := by decide +kernel
theorem dX12_idle_112 : decode cX12_idle 112 = .ok (.getfield 46, 3) := by decide +kernel
theorem dX12_idle_115 : decode cX12_idle 115 = .ok (.aload_n 0, 1) := by decide +kernel
theorem dX12_idle_116 : decode cX12_idle 116 = .ok (.getfield 13, 3) := by decide +kernel
theorem dX12_idle_119 : decode cX12_idle 119 = .ok (.iload 4, 2) := by decide +kernel
theorem dX12_idle_121 : decode cX12_idle 121 = .ok (.iaload, 1) := by decide +kernel
theorem dX12_idle_122 : decode cX12_idle 122 = .ok (.dup2, 1) := by decide +kernel
theorem dX12_idle_123 : decode cX12_idle 123 = .ok (.iaload, 1) := by decide +kernel
theorem dX12_idle_124 : decode cX12_idle 124 = .ok (.aload_n 0, 1) := by decide +kernel
theorem dX12_idle_125 : decode cX12_idle 125 = .ok (.getfield 46, 3) := by decide +kernel
theorem dX12_idle_128 : decode cX12_idle 128 = .ok (.iload_n 3, 1) := by decide +kernel
theorem dX12_idle_129 : decode cX12_idle 129 = .ok (.iaload, 1) := by decide +kernel
theorem dX12_idle_130 : decode cX12_idle 130 = .ok (.ior, 1) := by decide +kernel
theorem dX12_idle_131 : decode cX12_idle 131 = .ok (.iastore, 1) := by decide +kernel
theorem dX12_idle_132 : decode cX12_idle 132 = .ok (.aload_n 0, 1) := by decide +kernel
theorem dX12_idle_133 : decode cX12_idle 133 = .ok (.getfield 46, 3) := by decide +kernel
theorem dX12_idle_136 : decode cX12_idle 136 = .ok (.aload_n 0, 1) := by decide +kernel
theorem dX12_idle_137 : decode cX12_idle 137 = .ok (.getfield 16, 3) := by decide +kernel
theorem dX12_idle_140 : decode cX12_idle 140 = .ok (.iload 4, 2) := by decide +kernel
theorem dX12_idle_142 : decode cX12_idle 142 = .ok (.iaload, 1) := by decide +kernel
theorem dX12_idle_143 : decode cX12_idle 143 = .ok (.dup2, 1) := by decide +kernel
theorem dX12_idle_144 : decode cX12_idle 144 = .ok (.iaload, 1) := by decide +kernel
theorem dX12_idle_145 : decode cX12_idle 145 = .ok (.aload_n 0, 1) := by decide +kernel
theorem dX12_idle_146 : decode cX12_idle 146 = .ok (.getfield 46, 3) := by decide +kernel
theorem dX12_idle_149 : decode cX12_idle 149 = .ok (.iload_n 3, 1) := by decide +kernel
theorem dX12_idle_150 : decode cX12_idle 150 = .ok (.iaload, 1) := by decide +kernel
theorem dX12_idle_151 : decode cX12_idle 151 = .ok (.ior, 1) := by decide +kernel
theorem dX12_idle_152 : decode cX12_idle 152 = .ok (.iastore, 1) := by decide +kernel
theorem dX12_idle_153 : decode cX12_idle 153 = .ok (.iinc 3 (-1), 3) := by decide +kernel
theorem dX12_idle_156 : decode cX12_idle 156 = .ok (.goto (-85), 3) := by decide +kernel
theorem dX12_idle_159 : decode cX12_idle 159 = .ok (.iload_n 2, 1) := by decide +kernel
theorem dX12_idle_160 : decode cX12_idle 160 = .ok (.ireturn, 1) := by decide +kernel
theorem dX12_areaOf_0 : decode cX12_areaOf 0 = .ok (.iconst 0, 1) := by decide +kernel
theorem dX12_areaOf_1 : decode cX12_areaOf 1 = .ok (.istore_n 2, 1) := by decide +kernel
theorem dX12_areaOf_2 : decode cX12_areaOf 2 = .ok (.iconst 0, 1) := by decide +kernel
theorem dX12_areaOf_3 : decode cX12_areaOf 3 = .ok (.istore_n 3, 1) := by decide +kernel
theorem dX12_areaOf_4 : decode cX12_areaOf 4 = .ok (.iload_n 3, 1) := by decide +kernel
theorem dX12_areaOf_5 : decode cX12_areaOf 5 = .ok (.aload_n 0, 1) := by decide +kernel
theorem dX12_areaOf_6 : decode cX12_areaOf 6 = .ok (.getfield 22, 3) := by decide +kernel
theorem dX12_areaOf_9 : decode cX12_areaOf 9 = .ok (.iload_n 1, 1) := by decide +kernel
theorem dX12_areaOf_10 : decode cX12_areaOf 10 = .ok (.iaload, 1) := by decide +kernel
theorem dX12_areaOf_11 : decode cX12_areaOf 11 = .ok (.if_icmp .ge 42, 3) := by decide +kernel
theorem dX12_areaOf_14 : decode cX12_areaOf 14 = .ok (.aload_n 0, 1) := by decide +kernel
theorem dX12_areaOf_15 : decode cX12_areaOf 15 = .ok (.getfield 7, 3) := by decide +kernel
theorem dX12_areaOf_18 : decode cX12_areaOf 18 = .ok (.bipush 120, 2) := by decide +kernel
theorem dX12_areaOf_20 : decode cX12_areaOf 20 = .ok (.iload_n 1, 1) := by decide +kernel
theorem dX12_areaOf_21 : decode cX12_areaOf 21 = .ok (.imul, 1) := by decide +kernel
theorem dX12_areaOf_22 : decode cX12_areaOf 22 = .ok (.iload_n 3, 1) := by decide +kernel
theorem dX12_areaOf_23 : decode cX12_areaOf 23 = .ok (.iadd, 1) := by decide +kernel
theorem dX12_areaOf_24 : decode cX12_areaOf 24 = .ok (.iaload, 1) := by decide +kernel
theorem dX12_areaOf_25 : decode cX12_areaOf 25 = .ok (.istore 4, 2) := by decide +kernel
theorem dX12_areaOf_27 : decode cX12_areaOf 27 = .ok (.iload_n 2, 1) := by decide +kernel
theorem dX12_areaOf_28 : decode cX12_areaOf 28 = .ok (.iload 4, 2) := by decide +kernel
theorem dX12_areaOf_30 : decode cX12_areaOf 30 = .ok (.iconst 4, 1) := by decide +kernel
theorem dX12_areaOf_31 : decode cX12_areaOf 31 = .ok (.if_icmp .ne 7, 3) := by decide +kernel
theorem dX12_areaOf_34 : decode cX12_areaOf 34 = .ok (.iconst 0, 1) := by decide +kernel
theorem dX12_areaOf_35 : decode cX12_areaOf 35 = .ok (.goto 10, 3) := by decide +kernel
theorem dX12_areaOf_38 : decode cX12_areaOf 38 = .ok (.aload_n 0, 1) := by decide +kernel
theorem dX12_areaOf_39 : decode cX12_areaOf 39 = .ok (.getfield 37, 3) := by decide +kernel
theorem dX12_areaOf_42 : decode cX12_areaOf 42 = .ok (.iload 4, 2) := by decide +kernel
theorem dX12_areaOf_44 : decode cX12_areaOf 44 = .ok (.iaload, 1) := by decide +kernel
theorem dX12_areaOf_45 : decode cX12_areaOf 45 = .ok (.iadd, 1) := by decide +kernel
theorem dX12_areaOf_46 : decode cX12_areaOf 46 = .ok (.istore_n 2, 1) := by decide +kernel
theorem dX12_areaOf_47 : decode cX12_areaOf 47 = .ok (.iinc 3 1, 3) := by decide +kernel
theorem dX12_areaOf_50 : decode cX12_areaOf 50 = .ok (.goto (-46), 3) := by decide +kernel
theorem dX12_areaOf_53 : decode cX12_areaOf 53 = .ok (.iload_n 2, 1) := by decide +kernel
theorem dX12_areaOf_54 : decode cX12_areaOf 54 = .ok (.ireturn, 1) := by decide +kernel
set_option maxRecDepth 20000 in
theorem ggX12_ofNet_X12_isNet : GoodIn wsX12_ofNet wsX12_isNet := goodIn_r _ [8, 9, 10, 7, 11] (by decide +kernel) (by decide +kernel)
set_option maxRecDepth 20000 in
theorem gX12_ofNet_X12_isNet : GoodIn wsX12_ofNet (va_wsS RX12 81 yX12_isNet wsX12_isNet) := goodIn_app (goodIn_of _ (by decide +kernel)) ggX12_ofNet_X12_isNet
set_option maxRecDepth 20000 in
theorem ggX12_ofNet_X12_isIn : GoodIn wsX12_ofNet wsX12_isIn := goodIn_r _ [11] (by decide +kernel) (by decide +kernel)
set_option maxRecDepth 20000 in
theorem gX12_ofNet_X12_isIn : GoodIn wsX12_ofNet (va_wsS RX12 77 yX12_isIn wsX12_isIn) := goodIn_app (goodIn_of _ (by decide +kernel)) ggX12_ofNet_X12_isIn
set_option maxRecDepth 20000 in
theorem ggX12_ofNet_X12_areaOf : GoodIn wsX12_ofNet wsX12_areaOf := goodIn_r _ [15, 2, 16, 17, 40, 41, 42, 43, 44, 45, 46, 47, 48, 49, 50, 51, 52, 53, 54, 55, 56, 57, 58, 59, 60, 61, 62] (by decide +kernel) (by decide +kernel)
set_option maxRecDepth 20000 in
theorem gX12_ofNet_X12_areaOf : GoodIn wsX12_ofNet (wsV RX12 138 RX12 yX12_areaOf wsX12_areaOf) := goodIn_app (goodIn_of _ (by decide +kernel)) ggX12_ofNet_X12_areaOf
set_option maxRecDepth 20000 in
theorem ggX12_ofNet_X12_delayOf : GoodIn wsX12_ofNet wsX12_delayOf := goodIn_r _ [21, 4, 22, 23, 24, 25, 26, 7, 27, 2, 16, 28, 29, 30, 40, 41, 42, 43, 44, 45, 46, 47, 48, 49, 50, 51, 52, 53, 54, 55, 56, 57, 58, 59, 60, 61, 62] (by decide +kernel) (by decide +kernel)
set_option maxRecDepth 20000 in
theorem gX12_ofNet_X12_delayOf : GoodIn wsX12_ofNet (wsV RX12 141 RX12 yX12_delayOf wsX12_delayOf) := goodIn_app (goodIn_of _ (by decide +kernel)) ggX12_ofNet_X12_delayOf
set_option maxRecDepth 20000 in
theorem ggX12_ofNet_X12_load : GoodIn wsX12_ofNet wsX12_load := goodIn_r _ [34, 2, 35, 16, 28, 29, 4, 23, 40, 41, 42, 43, 44, 45, 46, 47, 48, 49, 50, 51, 52, 53, 54, 55, 56, 57, 58, 59, 60, 61, 62] (by decide +kernel) (by decide +kernel)
set_option maxRecDepth 20000 in
theorem gX12_ofNet_X12_load : GoodIn wsX12_ofNet (wsV RX12 144 RX12 yX12_load wsX12_load) := goodIn_app (goodIn_of _ (by decide +kernel)) ggX12_ofNet_X12_load
set_option maxRecDepth 20000 in
theorem ggX12_ofNet_X12_idle : GoodIn wsX12_ofNet wsX12_idle := goodIn_r _ [39, 2, 35, 4, 23, 16, 28, 29, 40, 41, 42, 43, 44, 45, 46, 47, 48, 49, 50, 51, 52, 53, 54, 55, 56, 57, 58, 59, 60, 61, 62] (by decide +kernel) (by decide +kernel)
set_option maxRecDepth 20000 in
theorem gX12_ofNet_X12_idle : GoodIn wsX12_ofNet (wsV RX12 147 RX12 yX12_idle wsX12_idle) := goodIn_app (goodIn_of _ (by decide +kernel)) ggX12_ofNet_X12_idle
theorem dX12_ofNet_0 : decode cX12_ofNet 0 = .ok (.aload_n 0, 1) := by decide +kernel
theorem dX12_ofNet_1 : decode cX12_ofNet 1 = .ok (.iload_n 1, 1) := by decide +kernel
theorem dX12_ofNet_2 : decode cX12_ofNet 2 = .ok (.invokestatic 81, 3) := by decide +kernel
theorem dX12_ofNet_5 : decode cX12_ofNet 5 = .ok (.ifCond .ne 7, 3) := by decide +kernel
theorem dX12_ofNet_8 : decode cX12_ofNet 8 = .ok (.iconst 1, 1) := by decide +kernel
theorem dX12_ofNet_9 : decode cX12_ofNet 9 = .ok (.goto 18, 3) := by decide +kernel
theorem dX12_ofNet_12 : decode cX12_ofNet 12 = .ok (.iload_n 2, 1) := by decide +kernel
theorem dX12_ofNet_13 : decode cX12_ofNet 13 = .ok (.iconst 0, 1) := by decide +kernel
theorem dX12_ofNet_14 : decode cX12_ofNet 14 = .ok (.bipush 6, 2) := by decide +kernel
theorem dX12_ofNet_16 : decode cX12_ofNet 16 = .ok (.invokestatic 77, 3) := by decide +kernel
theorem dX12_ofNet_19 : decode cX12_ofNet 19 = .ok (.ifCond .ne 7, 3) := by decide +kernel
theorem dX12_ofNet_22 : decode cX12_ofNet 22 = .ok (.iconst 2, 1) := by decide +kernel
theorem dX12_ofNet_23 : decode cX12_ofNet 23 = .ok (.goto 4, 3) := by decide +kernel
theorem dX12_ofNet_26 : decode cX12_ofNet 26 = .ok (.iconst 0, 1) := by decide +kernel
theorem dX12_ofNet_27 : decode cX12_ofNet 27 = .ok (.putfield 73, 3) := by decide +kernel
theorem dX12_ofNet_30 : decode cX12_ofNet 30 = .ok (.aload_n 0, 1) := by decide +kernel
theorem dX12_ofNet_31 : decode cX12_ofNet 31 = .ok (.getfield 73, 3) := by decide +kernel
theorem dX12_ofNet_34 : decode cX12_ofNet 34 = .ok (.ifCond .le 5, 3) := by decide +kernel
theorem dX12_ofNet_37 : decode cX12_ofNet 37 = .ok (.iconst 0, 1) := by decide +kernel
theorem dX12_ofNet_38 : decode cX12_ofNet 38 = .ok (.ireturn, 1) := by decide +kernel
theorem dX12_ofNet_39 : decode cX12_ofNet 39 = .ok (.iload_n 2, 1) := by decide +kernel
theorem dX12_ofNet_40 : decode cX12_ofNet 40 = .ok (.tableswitch 79 0 5 #[40, 47, 54, 61, 67, 73], 40) := by decide +kernel
theorem dX12_ofNet_80 : decode cX12_ofNet 80 = .ok (.aload_n 0, 1) := by decide +kernel
theorem dX12_ofNet_81 : decode cX12_ofNet 81 = .ok (.getfield 22, 3) := by decide +kernel
theorem dX12_ofNet_84 : decode cX12_ofNet 84 = .ok (.iload_n 1, 1) := by decide +kernel
theorem dX12_ofNet_85 : decode cX12_ofNet 85 = .ok (.iaload, 1) := by decide +kernel
theorem dX12_ofNet_86 : decode cX12_ofNet 86 = .ok (.ireturn, 1) := by decide +kernel
theorem dX12_ofNet_87 : decode cX12_ofNet 87 = .ok (.aload_n 0, 1) := by decide +kernel
theorem dX12_ofNet_88 : decode cX12_ofNet 88 = .ok (.getfield 25, 3) := by decide +kernel
theorem dX12_ofNet_91 : decode cX12_ofNet 91 = .ok (.iload_n 1, 1) := by decide +kernel
theorem dX12_ofNet_92 : decode cX12_ofNet 92 = .ok (.iaload, 1) := by decide +kernel
theorem dX12_ofNet_93 : decode cX12_ofNet 93 = .ok (.ireturn, 1) := by decide +kernel
theorem dX12_ofNet_94 : decode cX12_ofNet 94 = .ok (.aload_n 0, 1) := by decide +kernel
theorem dX12_ofNet_95 : decode cX12_ofNet 95 = .ok (.getfield 31, 3) := by decide +kernel
theorem dX12_ofNet_98 : decode cX12_ofNet 98 = .ok (.iload_n 1, 1) := by decide +kernel
theorem dX12_ofNet_99 : decode cX12_ofNet 99 = .ok (.iaload, 1) := by decide +kernel
theorem dX12_ofNet_100 : decode cX12_ofNet 100 = .ok (.ireturn, 1) := by decide +kernel
theorem dX12_ofNet_101 : decode cX12_ofNet 101 = .ok (.aload_n 0, 1) := by decide +kernel
theorem dX12_ofNet_102 : decode cX12_ofNet 102 = .ok (.iload_n 1, 1) := by decide +kernel
theorem dX12_ofNet_103 : decode cX12_ofNet 103 = .ok (.invokevirtual 138, 3) := by decide +kernel
theorem dX12_ofNet_106 : decode cX12_ofNet 106 = .ok (.ireturn, 1) := by decide +kernel
theorem dX12_ofNet_107 : decode cX12_ofNet 107 = .ok (.aload_n 0, 1) := by decide +kernel
theorem dX12_ofNet_108 : decode cX12_ofNet 108 = .ok (.iload_n 1, 1) := by decide +kernel
theorem dX12_ofNet_109 : decode cX12_ofNet 109 = .ok (.invokevirtual 141, 3) := by decide +kernel
theorem dX12_ofNet_112 : decode cX12_ofNet 112 = .ok (.ireturn, 1) := by decide +kernel
theorem dX12_ofNet_113 : decode cX12_ofNet 113 = .ok (.aload_n 0, 1) := by decide +kernel
theorem dX12_ofNet_114 : decode cX12_ofNet 114 = .ok (.iload_n 1, 1) := by decide +kernel
theorem dX12_ofNet_115 : decode cX12_ofNet 115 = .ok (.invokevirtual 144, 3) := by decide +kernel
theorem dX12_ofNet_118 : decode cX12_ofNet 118 = .ok (.ireturn, 1) := by decide +kernel
theorem dX12_ofNet_119 : decode cX12_ofNet 119 = .ok (.aload_n 0, 1) := by decide +kernel
theorem dX12_ofNet_120 : decode cX12_ofNet 120 = .ok (.iload_n 1, 1) := by decide +kernel
theorem dX12_ofNet_121 : decode cX12_ofNet 121 = .ok (.invokevirtual 147, 3) := by decide +kernel
theorem dX12_ofNet_124 : decode cX12_ofNet 124 = .ok (.ireturn, 1) := by decide +kernel
set_option maxRecDepth 20000 in
theorem ggX12_time_X12_isGate : GoodIn wsX12_time wsX12_isGate := goodIn_r _ [7, 8, 9, 10, 6, 11, 12, 13, 14, 23, 24, 25, 26, 27, 28, 29, 30, 31, 32, 33, 34, 35, 36, 37, 38, 39, 40, 41, 42, 43, 44, 45] (by decide +kernel) (by decide +kernel)
set_option maxRecDepth 20000 in
theorem gX12_time_X12_isGate : GoodIn wsX12_time (wsV RX12 89 RX12 yX12_isGate wsX12_isGate) := goodIn_app (goodIn_of _ (by decide +kernel)) ggX12_time_X12_isGate
set_option maxRecDepth 20000 in
theorem ggX12_time_X12_findsTimes : GoodIn wsX12_time wsX12_findsTimes := goodIn_r _ [18, 8, 2, 19, 20, 21, 22, 23, 24, 25, 26, 27, 28, 29, 30, 31, 32, 33, 34, 35, 36, 37, 38, 39, 40, 41, 42, 43, 44, 45] (by decide +kernel) (by decide +kernel)
set_option maxRecDepth 20000 in
theorem gX12_time_X12_findsTimes : GoodIn wsX12_time (wsV RX12 134 RX12 yX12_findsTimes wsX12_findsTimes) := goodIn_app (goodIn_of _ (by decide +kernel)) ggX12_time_X12_findsTimes
theorem dX12_time_0 : decode cX12_time 0 = .ok (.aload_n 0, 1) := by decide +kernel
theorem dX12_time_1 : decode cX12_time 1 = .ok (.aload_n 0, 1) := by decide +kernel
theorem dX12_time_2 : decode cX12_time 2 = .ok (.iload_n 1, 1) := by decide +kernel
theorem dX12_time_3 : decode cX12_time 3 = .ok (.iload_n 2, 1) := by decide +kernel
theorem dX12_time_4 : decode cX12_time 4 = .ok (.invokevirtual 89, 3) := by decide +kernel
theorem dX12_time_7 : decode cX12_time 7 = .ok (.ifCond .eq 7, 3) := by decide +kernel
theorem dX12_time_10 : decode cX12_time 10 = .ok (.iconst 0, 1) := by decide +kernel
theorem dX12_time_11 : decode cX12_time 11 = .ok (.goto 4, 3) := by decide +kernel
theorem dX12_time_14 : decode cX12_time 14 = .ok (.iconst 1, 1) := by decide +kernel
theorem dX12_time_15 : decode cX12_time 15 = .ok (.putfield 73, 3) := by decide +kernel
theorem dX12_time_18 : decode cX12_time 18 = .ok (.aload_n 0, 1) := by decide +kernel
theorem dX12_time_19 : decode cX12_time 19 = .ok (.getfield 73, 3) := by decide +kernel
theorem dX12_time_22 : decode cX12_time 22 = .ok (.ifCond .le 5, 3) := by decide +kernel
theorem dX12_time_25 : decode cX12_time 25 = .ok (.iconst 0, 1) := by decide +kernel
theorem dX12_time_26 : decode cX12_time 26 = .ok (.ireturn, 1) := by decide +kernel
theorem dX12_time_27 : decode cX12_time 27 = .ok (.aload_n 0, 1) := by decide +kernel
theorem dX12_time_28 : decode cX12_time 28 = .ok (.iload_n 1, 1) := by decide +kernel
theorem dX12_time_29 : decode cX12_time 29 = .ok (.invokevirtual 134, 3) := by decide +kernel
theorem dX12_time_32 : decode cX12_time 32 = .ok (.pop, 1) := by decide +kernel
theorem dX12_time_33 : decode cX12_time 33 = .ok (.aload_n 0, 1) := by decide +kernel
theorem dX12_time_34 : decode cX12_time 34 = .ok (.getfield 43, 3) := by decide +kernel
theorem dX12_time_37 : decode cX12_time 37 = .ok (.iload_n 2, 1) := by decide +kernel
theorem dX12_time_38 : decode cX12_time 38 = .ok (.iaload, 1) := by decide +kernel
theorem dX12_time_39 : decode cX12_time 39 = .ok (.ireturn, 1) := by decide +kernel
set_option maxRecDepth 20000 in
theorem ggX12_path_X12_isNet : GoodIn wsX12_path wsX12_isNet := goodIn_r _ [12, 13, 14, 11, 15] (by decide +kernel) (by decide +kernel)
set_option maxRecDepth 20000 in
theorem gX12_path_X12_isNet : GoodIn wsX12_path (va_wsS RX12 81 yX12_isNet wsX12_isNet) := goodIn_app (goodIn_of _ (by decide +kernel)) ggX12_path_X12_isNet
set_option maxRecDepth 20000 in
theorem ggX12_path_X12_delayOf : GoodIn wsX12_path wsX12_delayOf := goodIn_r _ [19, 2, 4, 3, 20, 21, 22, 11, 23, 24, 5, 6, 8, 7, 25, 26, 27, 28, 29, 30, 31, 32, 33, 34, 35, 36, 37, 38, 39, 40, 41, 42, 43, 44, 45, 46, 47] (by decide +kernel) (by decide +kernel)
set_option maxRecDepth 20000 in
theorem gX12_path_X12_delayOf : GoodIn wsX12_path (wsV RX12 141 RX12 yX12_delayOf wsX12_delayOf) := goodIn_app (goodIn_of _ (by decide +kernel)) ggX12_path_X12_delayOf
theorem dX12_path_0 : decode cX12_path 0 = .ok (.aload_n 0, 1) := by decide +kernel
theorem dX12_path_1 : decode cX12_path 1 = .ok (.iload_n 1, 1) := by decide +kernel
theorem dX12_path_2 : decode cX12_path 2 = .ok (.invokestatic 81, 3) := by decide +kernel
theorem dX12_path_5 : decode cX12_path 5 = .ok (.ifCond .eq 11, 3) := by decide +kernel
theorem dX12_path_8 : decode cX12_path 8 = .ok (.iload_n 2, 1) := by decide +kernel
theorem dX12_path_9 : decode cX12_path 9 = .ok (.ifCond .lt 7, 3) := by decide +kernel
theorem dX12_path_12 : decode cX12_path 12 = .ok (.iconst 0, 1) := by decide +kernel
theorem dX12_path_13 : decode cX12_path 13 = .ok (.goto 4, 3) := by decide +kernel
theorem dX12_path_16 : decode cX12_path 16 = .ok (.iconst 1, 1) := by decide +kernel
theorem dX12_path_17 : decode cX12_path 17 = .ok (.putfield 73, 3) := by decide +kernel
theorem dX12_path_20 : decode cX12_path 20 = .ok (.aload_n 0, 1) := by decide +kernel
theorem dX12_path_21 : decode cX12_path 21 = .ok (.getfield 73, 3) := by decide +kernel
theorem dX12_path_24 : decode cX12_path 24 = .ok (.ifCond .le 5, 3) := by decide +kernel
theorem dX12_path_27 : decode cX12_path 27 = .ok (.iconst 0, 1) := by decide +kernel
theorem dX12_path_28 : decode cX12_path 28 = .ok (.ireturn, 1) := by decide +kernel
theorem dX12_path_29 : decode cX12_path 29 = .ok (.aload_n 0, 1) := by decide +kernel
theorem dX12_path_30 : decode cX12_path 30 = .ok (.iload_n 1, 1) := by decide +kernel
theorem dX12_path_31 : decode cX12_path 31 = .ok (.invokevirtual 141, 3) := by decide +kernel
theorem dX12_path_34 : decode cX12_path 34 = .ok (.istore_n 3, 1) := by decide +kernel
theorem dX12_path_35 : decode cX12_path 35 = .ok (.iconst (-1), 1) := by decide +kernel
theorem dX12_path_36 : decode cX12_path 36 = .ok (.istore 4, 2) := by decide +kernel
theorem dX12_path_38 : decode cX12_path 38 = .ok (.aload_n 0, 1) := by decide +kernel
theorem dX12_path_39 : decode cX12_path 39 = .ok (.getfield 31, 3) := by decide +kernel
theorem dX12_path_42 : decode cX12_path 42 = .ok (.iload_n 1, 1) := by decide +kernel
theorem dX12_path_43 : decode cX12_path 43 = .ok (.iaload, 1) := by decide +kernel
theorem dX12_path_44 : decode cX12_path 44 = .ok (.iconst 1, 1) := by decide +kernel
theorem dX12_path_45 : decode cX12_path 45 = .ok (.isub, 1) := by decide +kernel
theorem dX12_path_46 : decode cX12_path 46 = .ok (.istore 5, 2) := by decide +kernel
theorem dX12_path_48 : decode cX12_path 48 = .ok (.iload 5, 2) := by decide +kernel
theorem dX12_path_50 : decode cX12_path 50 = .ok (.ifCond .lt 43, 3) := by decide +kernel
theorem dX12_path_53 : decode cX12_path 53 = .ok (.aload_n 0, 1) := by decide +kernel
theorem dX12_path_54 : decode cX12_path 54 = .ok (.getfield 28, 3) := by decide +kernel
theorem dX12_path_57 : decode cX12_path 57 = .ok (.bipush 16, 2) := by decide +kernel
theorem dX12_path_59 : decode cX12_path 59 = .ok (.iload_n 1, 1) := by decide +kernel
theorem dX12_path_60 : decode cX12_path 60 = .ok (.imul, 1) := by decide +kernel
theorem dX12_path_61 : decode cX12_path 61 = .ok (.iload 5, 2) := by decide +kernel
theorem dX12_path_63 : decode cX12_path 63 = .ok (.iadd, 1) := by decide +kernel
theorem dX12_path_64 : decode cX12_path 64 = .ok (.iaload, 1) := by decide +kernel
theorem dX12_path_65 : decode cX12_path 65 = .ok (.istore 6, 2) := by decide +kernel
theorem dX12_path_67 : decode cX12_path 67 = .ok (.aload_n 0, 1) := by decide +kernel
theorem dX12_path_68 : decode cX12_path 68 = .ok (.getfield 43, 3) := by decide +kernel
theorem dX12_path_71 : decode cX12_path 71 = .ok (.iload 6, 2) := by decide +kernel
theorem dX12_path_73 : decode cX12_path 73 = .ok (.iaload, 1) := by decide +kernel
theorem dX12_path_74 : decode cX12_path 74 = .ok (.iload_n 3, 1) := by decide +kernel
theorem dX12_path_75 : decode cX12_path 75 = .ok (.if_icmp .ne 8, 3) := by decide +kernel
theorem dX12_path_78 : decode cX12_path 78 = .ok (.iload 6, 2) := by decide +kernel
theorem dX12_path_80 : decode cX12_path 80 = .ok (.goto 5, 3) := by decide +kernel
theorem dX12_path_83 : decode cX12_path 83 = .ok (.iload 4, 2) := by decide +kernel
theorem dX12_path_85 : decode cX12_path 85 = .ok (.istore 4, 2) := by decide +kernel
theorem dX12_path_87 : decode cX12_path 87 = .ok (.iinc 5 (-1), 3) := by decide +kernel
theorem dX12_path_90 : decode cX12_path 90 = .ok (.goto (-42), 3) := by decide +kernel
theorem dX12_path_93 : decode cX12_path 93 = .ok (.iconst 0, 1) := by decide +kernel
theorem dX12_path_94 : decode cX12_path 94 = .ok (.istore 5, 2) := by decide +kernel
theorem dX12_path_96 : decode cX12_path 96 = .ok (.iload 5, 2) := by decide +kernel
theorem dX12_path_98 : decode cX12_path 98 = .ok (.iload_n 2, 1) := by decide +kernel
theorem dX12_path_99 : decode cX12_path 99 = .ok (.if_icmp .ge 105, 3) := by decide +kernel
theorem dX12_path_102 : decode cX12_path 102 = .ok (.iload 4, 2) := by decide +kernel
theorem dX12_path_104 : decode cX12_path 104 = .ok (.iconst (-1), 1) := by decide +kernel
theorem dX12_path_105 : decode cX12_path 105 = .ok (.if_icmp .eq 99, 3) := by decide +kernel
theorem dX12_path_108 : decode cX12_path 108 = .ok (.bipush 120, 2) := by decide +kernel
theorem dX12_path_110 : decode cX12_path 110 = .ok (.iload_n 1, 1) := by decide +kernel
theorem dX12_path_111 : decode cX12_path 111 = .ok (.imul, 1) := by decide +kernel
theorem dX12_path_112 : decode cX12_path 112 = .ok (.iload 4, 2) := by decide +kernel
theorem dX12_path_114 : decode cX12_path 114 = .ok (.iadd, 1) := by decide +kernel
theorem dX12_path_115 : decode cX12_path 115 = .ok (.istore 6, 2) := by decide +kernel
theorem dX12_path_117 : decode cX12_path 117 = .ok (.aload_n 0, 1) := by decide +kernel
theorem dX12_path_118 : decode cX12_path 118 = .ok (.getfield 7, 3) := by decide +kernel
theorem dX12_path_121 : decode cX12_path 121 = .ok (.iload 6, 2) := by decide +kernel
theorem dX12_path_123 : decode cX12_path 123 = .ok (.iaload, 1) := by decide +kernel
theorem dX12_path_124 : decode cX12_path 124 = .ok (.iconst 4, 1) := by decide +kernel
theorem dX12_path_125 : decode cX12_path 125 = .ok (.if_icmp .ne 7, 3) := by decide +kernel
theorem dX12_path_128 : decode cX12_path 128 = .ok (.iconst 1, 1) := by decide +kernel
theorem dX12_path_129 : decode cX12_path 129 = .ok (.goto 4, 3) := by decide +kernel
theorem dX12_path_132 : decode cX12_path 132 = .ok (.iconst 0, 1) := by decide +kernel
theorem dX12_path_133 : decode cX12_path 133 = .ok (.istore 7, 2) := by decide +kernel
theorem dX12_path_135 : decode cX12_path 135 = .ok (.iload 7, 2) := by decide +kernel
theorem dX12_path_137 : decode cX12_path 137 = .ok (.ifCond .eq 7, 3) := by decide +kernel
theorem dX12_path_140 : decode cX12_path 140 = .ok (.iconst (-1), 1) := by decide +kernel
theorem dX12_path_141 : decode cX12_path 141 = .ok (.goto 55, 3) := by decide +kernel
theorem dX12_path_144 : decode cX12_path 144 = .ok (.aload_n 0, 1) := by decide +kernel
theorem dX12_path_145 : decode cX12_path 145 = .ok (.getfield 43, 3) := by decide +kernel
theorem dX12_path_148 : decode cX12_path 148 = .ok (.aload_n 0, 1) := by decide +kernel
theorem dX12_path_149 : decode cX12_path 149 = .ok (.getfield 13, 3) := by decide +kernel
theorem dX12_path_152 : decode cX12_path 152 = .ok (.iload 6, 2) := by decide +kernel
theorem dX12_path_154 : decode cX12_path 154 = .ok (.iaload, 1) := by decide +kernel
theorem dX12_path_155 : decode cX12_path 155 = .ok (.iaload, 1) := by decide +kernel
theorem dX12_path_156 : decode cX12_path 156 = .ok (.aload_n 0, 1) := by decide +kernel
theorem dX12_path_157 : decode cX12_path 157 = .ok (.getfield 34, 3) := by decide +kernel
theorem dX12_path_160 : decode cX12_path 160 = .ok (.aload_n 0, 1) := by decide +kernel
theorem dX12_path_161 : decode cX12_path 161 = .ok (.getfield 7, 3) := by decide +kernel
theorem dX12_path_164 : decode cX12_path 164 = .ok (.iload 6, 2) := by decide +kernel
theorem dX12_path_166 : decode cX12_path 166 = .ok (.iaload, 1) := by decide +kernel
theorem dX12_path_167 : decode cX12_path 167 = .ok (.iaload, 1) := by decide +kernel
theorem dX12_path_168 : decode cX12_path 168 = .ok (.iadd, 1) := by decide +kernel
theorem dX12_path_169 : decode cX12_path 169 = .ok (.aload_n 0, 1) := by decide +kernel
theorem dX12_path_170 : decode cX12_path 170 = .ok (.getfield 43, 3) := by decide +kernel
theorem dX12_path_173 : decode cX12_path 173 = .ok (.iload 4, 2) := by decide +kernel
theorem dX12_path_175 : decode cX12_path 175 = .ok (.iaload, 1) := by decide +kernel
theorem dX12_path_176 : decode cX12_path 176 = .ok (.if_icmp .ne 13, 3) := by decide +kernel
theorem dX12_path_179 : decode cX12_path 179 = .ok (.aload_n 0, 1) := by decide +kernel
theorem dX12_path_180 : decode cX12_path 180 = .ok (.getfield 13, 3) := by decide +kernel
theorem dX12_path_183 : decode cX12_path 183 = .ok (.iload 6, 2) := by decide +kernel
theorem dX12_path_185 : decode cX12_path 185 = .ok (.iaload, 1) := by decide +kernel
theorem dX12_path_186 : decode cX12_path 186 = .ok (.goto 10, 3) := by decide +kernel
theorem dX12_path_189 : decode cX12_path 189 = .ok (.aload_n 0, 1) := by decide +kernel
theorem dX12_path_190 : decode cX12_path 190 = .ok (.getfield 16, 3) := by decide +kernel
theorem dX12_path_193 : decode cX12_path 193 = .ok (.iload 6, 2) := by decide +kernel
theorem dX12_path_195 : decode cX12_path 195 = .ok (.iaload, 1) := by decide +kernel
theorem dX12_path_196 : decode cX12_path 196 = .ok (.istore 4, 2) := by decide +kernel
theorem dX12_path_198 : decode cX12_path 198 = .ok (.iinc 5 1, 3) := by decide +kernel
theorem dX12_path_201 : decode cX12_path 201 = .ok (.goto (-105), 3) := by decide +kernel
theorem dX12_path_204 : decode cX12_path 204 = .ok (.iload 4, 2) := by decide +kernel
theorem dX12_path_206 : decode cX12_path 206 = .ok (.ireturn, 1) := by decide +kernel
set_option maxRecDepth 20000 in
theorem ggX12_tellsChanges_X12_isNet : GoodIn wsX12_tellsChanges wsX12_isNet := goodIn_r _ [17, 18, 19, 16, 20] (by decide +kernel) (by decide +kernel)
set_option maxRecDepth 20000 in
theorem gX12_tellsChanges_X12_isNet : GoodIn wsX12_tellsChanges (va_wsS RX12 81 yX12_isNet wsX12_isNet) := goodIn_app (goodIn_of _ (by decide +kernel)) ggX12_tellsChanges_X12_isNet
set_option maxRecDepth 20000 in
theorem ggX12_tellsChanges_X12_isNumber : GoodIn wsX12_tellsChanges wsX12_isNumber := goodIn_r _ [23, 24, 18, 19, 16, 20] (by decide +kernel) (by decide +kernel)
set_option maxRecDepth 20000 in
theorem gX12_tellsChanges_X12_isNumber : GoodIn wsX12_tellsChanges (va_wsS RX12 125 yX12_isNumber wsX12_isNumber) := goodIn_app (goodIn_of _ (by decide +kernel)) ggX12_tellsChanges_X12_isNumber
set_option maxRecDepth 20000 in
theorem ggX12_tellsChanges_X12_isIn : GoodIn wsX12_tellsChanges wsX12_isIn := goodIn_r _ [20] (by decide +kernel) (by decide +kernel)
set_option maxRecDepth 20000 in
theorem gX12_tellsChanges_X12_isIn : GoodIn wsX12_tellsChanges (va_wsS RX12 77 yX12_isIn wsX12_isIn) := goodIn_app (goodIn_of _ (by decide +kernel)) ggX12_tellsChanges_X12_isIn
set_option maxRecDepth 20000 in
theorem ggX12_tellsChanges_X12_findsBits : GoodIn wsX12_tellsChanges wsX12_findsBits := goodIn_r _ [28, 2, 8, 4, 10, 12, 13, 29, 30, 16, 31, 37, 38, 39, 40, 41, 42, 43, 44, 45, 46, 47, 48, 49, 50, 51, 52, 53, 54, 55, 56, 57, 58, 59] (by decide +kernel) (by decide +kernel)
set_option maxRecDepth 20000 in
theorem gX12_tellsChanges_X12_findsBits : GoodIn wsX12_tellsChanges (wsV RX12 121 RX12 yX12_findsBits wsX12_findsBits) := goodIn_app (goodIn_of _ (by decide +kernel)) ggX12_tellsChanges_X12_findsBits
set_option maxRecDepth 20000 in
theorem ggX12_tellsChanges_X12_findsTimes : GoodIn wsX12_tellsChanges wsX12_findsTimes := goodIn_r _ [35, 2, 36, 8, 10, 12, 9, 37, 38, 39, 40, 41, 42, 43, 44, 45, 46, 47, 48, 49, 50, 51, 52, 53, 54, 55, 56, 57, 58, 59] (by decide +kernel) (by decide +kernel)
set_option maxRecDepth 20000 in
theorem gX12_tellsChanges_X12_findsTimes : GoodIn wsX12_tellsChanges (wsV RX12 134 RX12 yX12_findsTimes wsX12_findsTimes) := goodIn_app (goodIn_of _ (by decide +kernel)) ggX12_tellsChanges_X12_findsTimes
set_option maxRecDepth 20000 in
theorem ggX12_tellsChanges_X12_follows : GoodIn wsX12_tellsChanges wsX12_follows := goodIn_r _ [31] (by decide +kernel) (by decide +kernel)
set_option maxRecDepth 20000 in
theorem gX12_tellsChanges_X12_follows : GoodIn wsX12_tellsChanges (va_wsS RX12 118 yX12_follows wsX12_follows) := goodIn_app (goodIn_of _ (by decide +kernel)) ggX12_tellsChanges_X12_follows
theorem dX12_tellsChanges_0 : decode cX12_tellsChanges 0 = .ok (.aload_n 0, 1) := by decide +kernel
theorem dX12_tellsChanges_1 : decode cX12_tellsChanges 1 = .ok (.iload_n 1, 1) := by decide +kernel
theorem dX12_tellsChanges_2 : decode cX12_tellsChanges 2 = .ok (.invokestatic 81, 3) := by decide +kernel
theorem dX12_tellsChanges_5 : decode cX12_tellsChanges 5 = .ok (.ifCond .ne 7, 3) := by decide +kernel
theorem dX12_tellsChanges_8 : decode cX12_tellsChanges 8 = .ok (.iconst 1, 1) := by decide +kernel
theorem dX12_tellsChanges_9 : decode cX12_tellsChanges 9 = .ok (.goto 32, 3) := by decide +kernel
theorem dX12_tellsChanges_12 : decode cX12_tellsChanges 12 = .ok (.iload_n 2, 1) := by decide +kernel
theorem dX12_tellsChanges_13 : decode cX12_tellsChanges 13 = .ok (.invokestatic 125, 3) := by decide +kernel
theorem dX12_tellsChanges_16 : decode cX12_tellsChanges 16 = .ok (.ifCond .eq 20, 3) := by decide +kernel
theorem dX12_tellsChanges_19 : decode cX12_tellsChanges 19 = .ok (.iload_n 3, 1) := by decide +kernel
theorem dX12_tellsChanges_20 : decode cX12_tellsChanges 20 = .ok (.invokestatic 125, 3) := by decide +kernel
theorem dX12_tellsChanges_23 : decode cX12_tellsChanges 23 = .ok (.ifCond .eq 13, 3) := by decide +kernel
theorem dX12_tellsChanges_26 : decode cX12_tellsChanges 26 = .ok (.iload 4, 2) := by decide +kernel
theorem dX12_tellsChanges_28 : decode cX12_tellsChanges 28 = .ok (.iconst 0, 1) := by decide +kernel
theorem dX12_tellsChanges_29 : decode cX12_tellsChanges 29 = .ok (.iconst 2, 1) := by decide +kernel
theorem dX12_tellsChanges_30 : decode cX12_tellsChanges 30 = .ok (.invokestatic 77, 3) := by decide +kernel
theorem dX12_tellsChanges_33 : decode cX12_tellsChanges 33 = .ok (.ifCond .ne 7, 3) := by decide +kernel
theorem dX12_tellsChanges_36 : decode cX12_tellsChanges 36 = .ok (.iconst 2, 1) := by decide +kernel
theorem dX12_tellsChanges_37 : decode cX12_tellsChanges 37 = .ok (.goto 4, 3) := by decide +kernel
theorem dX12_tellsChanges_40 : decode cX12_tellsChanges 40 = .ok (.iconst 0, 1) := by decide +kernel
theorem dX12_tellsChanges_41 : decode cX12_tellsChanges 41 = .ok (.putfield 73, 3) := by decide +kernel
theorem dX12_tellsChanges_44 : decode cX12_tellsChanges 44 = .ok (.aload_n 0, 1) := by decide +kernel
theorem dX12_tellsChanges_45 : decode cX12_tellsChanges 45 = .ok (.getfield 73, 3) := by decide +kernel
theorem dX12_tellsChanges_48 : decode cX12_tellsChanges 48 = .ok (.ifCond .le 5, 3) := by decide +kernel
theorem dX12_tellsChanges_51 : decode cX12_tellsChanges 51 = .ok (.iconst 0, 1) := by decide +kernel
theorem dX12_tellsChanges_52 : decode cX12_tellsChanges 52 = .ok (.ireturn, 1) := by decide +kernel
theorem dX12_tellsChanges_53 : decode cX12_tellsChanges 53 = .ok (.aload_n 0, 1) := by decide +kernel
theorem dX12_tellsChanges_54 : decode cX12_tellsChanges 54 = .ok (.iload_n 1, 1) := by decide +kernel
theorem dX12_tellsChanges_55 : decode cX12_tellsChanges 55 = .ok (.iload_n 2, 1) := by decide +kernel
theorem dX12_tellsChanges_56 : decode cX12_tellsChanges 56 = .ok (.invokevirtual 121, 3) := by decide +kernel
theorem dX12_tellsChanges_59 : decode cX12_tellsChanges 59 = .ok (.iconst 0, 1) := by decide +kernel
theorem dX12_tellsChanges_60 : decode cX12_tellsChanges 60 = .ok (.istore 5, 2) := by decide +kernel
theorem dX12_tellsChanges_62 : decode cX12_tellsChanges 62 = .ok (.iload 5, 2) := by decide +kernel
theorem dX12_tellsChanges_64 : decode cX12_tellsChanges 64 = .ok (.aload_n 0, 1) := by decide +kernel
theorem dX12_tellsChanges_65 : decode cX12_tellsChanges 65 = .ok (.getfield 22, 3) := by decide +kernel
theorem dX12_tellsChanges_68 : decode cX12_tellsChanges 68 = .ok (.iload_n 1, 1) := by decide +kernel
theorem dX12_tellsChanges_69 : decode cX12_tellsChanges 69 = .ok (.iaload, 1) := by decide +kernel
theorem dX12_tellsChanges_70 : decode cX12_tellsChanges 70 = .ok (.if_icmp .ge 31, 3) := by decide +kernel
theorem dX12_tellsChanges_73 : decode cX12_tellsChanges 73 = .ok (.aload_n 0, 1) := by decide +kernel
theorem dX12_tellsChanges_74 : decode cX12_tellsChanges 74 = .ok (.getfield 49, 3) := by decide +kernel
theorem dX12_tellsChanges_77 : decode cX12_tellsChanges 77 = .ok (.iload 5, 2) := by decide +kernel
theorem dX12_tellsChanges_79 : decode cX12_tellsChanges 79 = .ok (.aload_n 0, 1) := by decide +kernel
theorem dX12_tellsChanges_80 : decode cX12_tellsChanges 80 = .ok (.getfield 40, 3) := by decide +kernel
theorem dX12_tellsChanges_83 : decode cX12_tellsChanges 83 = .ok (.iload 5, 2) := by decide +kernel
theorem dX12_tellsChanges_85 : decode cX12_tellsChanges 85 = .ok (.iaload, 1) := by decide +kernel
theorem dX12_tellsChanges_86 : decode cX12_tellsChanges 86 = .ok (.iastore, 1) := by decide +kernel
theorem dX12_tellsChanges_87 : decode cX12_tellsChanges 87 = .ok (.aload_n 0, 1) := by decide +kernel
theorem dX12_tellsChanges_88 : decode cX12_tellsChanges 88 = .ok (.getfield 46, 3) := by decide +kernel
theorem dX12_tellsChanges_91 : decode cX12_tellsChanges 91 = .ok (.iload 5, 2) := by decide +kernel
theorem dX12_tellsChanges_93 : decode cX12_tellsChanges 93 = .ok (.iconst 0, 1) := by decide +kernel
theorem dX12_tellsChanges_94 : decode cX12_tellsChanges 94 = .ok (.iastore, 1) := by decide +kernel
theorem dX12_tellsChanges_95 : decode cX12_tellsChanges 95 = .ok (.iinc 5 1, 3) := by decide +kernel
theorem dX12_tellsChanges_98 : decode cX12_tellsChanges 98 = .ok (.goto (-36), 3) := by decide +kernel
theorem dX12_tellsChanges_101 : decode cX12_tellsChanges 101 = .ok (.iconst 0, 1) := by decide +kernel
theorem dX12_tellsChanges_102 : decode cX12_tellsChanges 102 = .ok (.istore 5, 2) := by decide +kernel
theorem dX12_tellsChanges_104 : decode cX12_tellsChanges 104 = .ok (.iload 5, 2) := by decide +kernel
theorem dX12_tellsChanges_106 : decode cX12_tellsChanges 106 = .ok (.aload_n 0, 1) := by decide +kernel
theorem dX12_tellsChanges_107 : decode cX12_tellsChanges 107 = .ok (.getfield 31, 3) := by decide +kernel
theorem dX12_tellsChanges_110 : decode cX12_tellsChanges 110 = .ok (.iload_n 1, 1) := by decide +kernel
theorem dX12_tellsChanges_111 : decode cX12_tellsChanges 111 = .ok (.iaload, 1) := by decide +kernel
theorem dX12_tellsChanges_112 : decode cX12_tellsChanges 112 = .ok (.if_icmp .ge 27, 3) := by decide +kernel
theorem dX12_tellsChanges_115 : decode cX12_tellsChanges 115 = .ok (.aload_n 0, 1) := by decide +kernel
theorem dX12_tellsChanges_116 : decode cX12_tellsChanges 116 = .ok (.getfield 46, 3) := by decide +kernel
theorem dX12_tellsChanges_119 : decode cX12_tellsChanges 119 = .ok (.aload_n 0, 1) := by decide +kernel
theorem dX12_tellsChanges_120 : decode cX12_tellsChanges 120 = .ok (.getfield 28, 3) := by decide +kernel
theorem dX12_tellsChanges_123 : decode cX12_tellsChanges 123 = .ok (.bipush 16, 2) := by decide +kernel
theorem dX12_tellsChanges_125 : decode cX12_tellsChanges 125 = .ok (.iload_n 1, 1) := by decide +kernel
theorem dX12_tellsChanges_126 : decode cX12_tellsChanges 126 = .ok (.imul, 1) := by decide +kernel
theorem dX12_tellsChanges_127 : decode cX12_tellsChanges 127 = .ok (.iload 5, 2) := by decide +kernel
theorem dX12_tellsChanges_129 : decode cX12_tellsChanges 129 = .ok (.iadd, 1) := by decide +kernel
theorem dX12_tellsChanges_130 : decode cX12_tellsChanges 130 = .ok (.iaload, 1) := by decide +kernel
theorem dX12_tellsChanges_131 : decode cX12_tellsChanges 131 = .ok (.iconst 1, 1) := by decide +kernel
theorem dX12_tellsChanges_132 : decode cX12_tellsChanges 132 = .ok (.iastore, 1) := by decide +kernel
theorem dX12_tellsChanges_133 : decode cX12_tellsChanges 133 = .ok (.iinc 5 1, 3) := by decide +kernel
theorem dX12_tellsChanges_136 : decode cX12_tellsChanges 136 = .ok (.goto (-32), 3) := by decide +kernel
theorem dX12_tellsChanges_139 : decode cX12_tellsChanges 139 = .ok (.aload_n 0, 1) := by decide +kernel
theorem dX12_tellsChanges_140 : decode cX12_tellsChanges 140 = .ok (.iload_n 1, 1) := by decide +kernel
theorem dX12_tellsChanges_141 : decode cX12_tellsChanges 141 = .ok (.iload_n 3, 1) := by decide +kernel
theorem dX12_tellsChanges_142 : decode cX12_tellsChanges 142 = .ok (.invokevirtual 121, 3) := by decide +kernel
theorem dX12_tellsChanges_145 : decode cX12_tellsChanges 145 = .ok (.aload_n 0, 1) := by decide +kernel
theorem dX12_tellsChanges_146 : decode cX12_tellsChanges 146 = .ok (.iload_n 1, 1) := by decide +kernel
theorem dX12_tellsChanges_147 : decode cX12_tellsChanges 147 = .ok (.invokevirtual 134, 3) := by decide +kernel
theorem dX12_tellsChanges_150 : decode cX12_tellsChanges 150 = .ok (.istore 5, 2) := by decide +kernel
theorem dX12_tellsChanges_152 : decode cX12_tellsChanges 152 = .ok (.iconst 0, 1) := by decide +kernel
theorem dX12_tellsChanges_153 : decode cX12_tellsChanges 153 = .ok (.istore 6, 2) := by decide +kernel
theorem dX12_tellsChanges_155 : decode cX12_tellsChanges 155 = .ok (.iconst 0, 1) := by decide +kernel
theorem dX12_tellsChanges_156 : decode cX12_tellsChanges 156 = .ok (.istore 7, 2) := by decide +kernel
theorem dX12_tellsChanges_158 : decode cX12_tellsChanges 158 = .ok (.iconst 0, 1) := by decide +kernel
theorem dX12_tellsChanges_159 : decode cX12_tellsChanges 159 = .ok (.istore 8, 2) := by decide +kernel
theorem dX12_tellsChanges_161 : decode cX12_tellsChanges 161 = .ok (.iconst 0, 1) := by decide +kernel
theorem dX12_tellsChanges_162 : decode cX12_tellsChanges 162 = .ok (.istore 9, 2) := by decide +kernel
theorem dX12_tellsChanges_164 : decode cX12_tellsChanges 164 = .ok (.iload 9, 2) := by decide +kernel
theorem dX12_tellsChanges_166 : decode cX12_tellsChanges 166 = .ok (.iload 5, 2) := by decide +kernel
theorem dX12_tellsChanges_168 : decode cX12_tellsChanges 168 = .ok (.if_icmp .gt 307, 3) := by decide +kernel
theorem dX12_tellsChanges_171 : decode cX12_tellsChanges 171 = .ok (.iconst 0, 1) := by decide +kernel
theorem dX12_tellsChanges_172 : decode cX12_tellsChanges 172 = .ok (.istore 10, 2) := by decide +kernel
theorem dX12_tellsChanges_174 : decode cX12_tellsChanges 174 = .ok (.iload 10, 2) := by decide +kernel
theorem dX12_tellsChanges_176 : decode cX12_tellsChanges 176 = .ok (.aload_n 0, 1) := by decide +kernel
theorem dX12_tellsChanges_177 : decode cX12_tellsChanges 177 = .ok (.getfield 22, 3) := by decide +kernel
theorem dX12_tellsChanges_180 : decode cX12_tellsChanges 180 = .ok (.iload_n 1, 1) := by decide +kernel
theorem dX12_tellsChanges_181 : decode cX12_tellsChanges 181 = .ok (.iaload, 1) := by decide +kernel
theorem dX12_tellsChanges_182 : decode cX12_tellsChanges 182 = .ok (.if_icmp .ge 287, 3) := by decide +kernel
theorem dX12_tellsChanges_185 : decode cX12_tellsChanges 185 = .ok (.bipush 120, 2) := by decide +kernel
theorem dX12_tellsChanges_187 : decode cX12_tellsChanges 187 = .ok (.iload_n 1, 1) := by decide +kernel
theorem dX12_tellsChanges_188 : decode cX12_tellsChanges 188 = .ok (.imul, 1) := by decide +kernel
theorem dX12_tellsChanges_189 : decode cX12_tellsChanges 189 = .ok (.iload 10, 2) := by decide +kernel
theorem dX12_tellsChanges_191 : decode cX12_tellsChanges 191 = .ok (.iadd, 1) := by decide +kernel
theorem dX12_tellsChanges_192 : decode cX12_tellsChanges 192 = .ok (.istore 11, 2) := by decide +kernel
theorem dX12_tellsChanges_194 : decode cX12_tellsChanges 194 = .ok (.aload_n 0, 1) := by decide +kernel
theorem dX12_tellsChanges_195 : decode cX12_tellsChanges 195 = .ok (.getfield 40, 3) := by decide +kernel
theorem dX12_tellsChanges_198 : decode cX12_tellsChanges 198 = .ok (.iload 10, 2) := by decide +kernel
theorem dX12_tellsChanges_200 : decode cX12_tellsChanges 200 = .ok (.iaload, 1) := by decide +kernel
theorem dX12_tellsChanges_201 : decode cX12_tellsChanges 201 = .ok (.istore 12, 2) := by decide +kernel
theorem dX12_tellsChanges_203 : decode cX12_tellsChanges 203 = .ok (.aload_n 0, 1) := by decide +kernel
theorem dX12_tellsChanges_204 : decode cX12_tellsChanges 204 = .ok (.getfield 7, 3) := by decide +kernel
theorem dX12_tellsChanges_207 : decode cX12_tellsChanges 207 = .ok (.iload 11, 2) := by decide +kernel
theorem dX12_tellsChanges_209 : decode cX12_tellsChanges 209 = .ok (.iaload, 1) := by decide +kernel
theorem dX12_tellsChanges_210 : decode cX12_tellsChanges 210 = .ok (.iconst 4, 1) := by decide +kernel
theorem dX12_tellsChanges_211 : decode cX12_tellsChanges 211 = .ok (.if_icmp .eq 234, 3) := by decide +kernel
theorem dX12_tellsChanges_214 : decode cX12_tellsChanges 214 = .ok (.iload 9, 2) := by decide +kernel
theorem dX12_tellsChanges_216 : decode cX12_tellsChanges 216 = .ok (.aload_n 0, 1) := by decide +kernel
theorem dX12_tellsChanges_217 : decode cX12_tellsChanges 217 = .ok (.getfield 34, 3) := by decide +kernel
theorem dX12_tellsChanges_220 : decode cX12_tellsChanges 220 = .ok (.aload_n 0, 1) := by decide +kernel
theorem dX12_tellsChanges_221 : decode cX12_tellsChanges 221 = .ok (.getfield 7, 3) := by decide +kernel
theorem dX12_tellsChanges_224 : decode cX12_tellsChanges 224 = .ok (.iload 11, 2) := by decide +kernel
theorem dX12_tellsChanges_226 : decode cX12_tellsChanges 226 = .ok (.iaload, 1) := by decide +kernel
theorem dX12_tellsChanges_227 : decode cX12_tellsChanges 227 = .ok (.iaload, 1) := by decide +kernel
theorem dX12_tellsChanges_228 : decode cX12_tellsChanges 228 = .ok (.isub, 1) := by decide +kernel
theorem dX12_tellsChanges_229 : decode cX12_tellsChanges 229 = .ok (.istore 13, 2) := by decide +kernel
theorem dX12_tellsChanges_231 : decode cX12_tellsChanges 231 = .ok (.iload 13, 2) := by decide +kernel
theorem dX12_tellsChanges_233 : decode cX12_tellsChanges 233 = .ok (.ifCond .ge 18, 3) := by decide +kernel
theorem dX12_tellsChanges_236 : decode cX12_tellsChanges 236 = .ok (.aload_n 0, 1) := by decide +kernel
theorem dX12_tellsChanges_237 : decode cX12_tellsChanges 237 = .ok (.getfield 49, 3) := by decide +kernel
theorem dX12_tellsChanges_240 : decode cX12_tellsChanges 240 = .ok (.aload_n 0, 1) := by decide +kernel
theorem dX12_tellsChanges_241 : decode cX12_tellsChanges 241 = .ok (.getfield 13, 3) := by decide +kernel
theorem dX12_tellsChanges_244 : decode cX12_tellsChanges 244 = .ok (.iload 11, 2) := by decide +kernel
theorem dX12_tellsChanges_246 : decode cX12_tellsChanges 246 = .ok (.iaload, 1) := by decide +kernel
theorem dX12_tellsChanges_247 : decode cX12_tellsChanges 247 = .ok (.iaload, 1) := by decide +kernel
theorem dX12_tellsChanges_248 : decode cX12_tellsChanges 248 = .ok (.goto 24, 3) := by decide +kernel
theorem dX12_tellsChanges_251 : decode cX12_tellsChanges 251 = .ok (.aload_n 0, 1) := by decide +kernel
theorem dX12_tellsChanges_252 : decode cX12_tellsChanges 252 = .ok (.getfield 52, 3) := by decide +kernel
theorem dX12_tellsChanges_255 : decode cX12_tellsChanges 255 = .ok (.bipush 120, 2) := by decide +kernel
theorem dX12_tellsChanges_257 : decode cX12_tellsChanges 257 = .ok (.iload 13, 2) := by decide +kernel
theorem dX12_tellsChanges_259 : decode cX12_tellsChanges 259 = .ok (.bipush 10, 2) := by decide +kernel
theorem dX12_tellsChanges_261 : decode cX12_tellsChanges 261 = .ok (.irem, 1) := by decide +kernel
theorem dX12_tellsChanges_262 : decode cX12_tellsChanges 262 = .ok (.imul, 1) := by decide +kernel
theorem dX12_tellsChanges_263 : decode cX12_tellsChanges 263 = .ok (.aload_n 0, 1) := by decide +kernel
theorem dX12_tellsChanges_264 : decode cX12_tellsChanges 264 = .ok (.getfield 13, 3) := by decide +kernel
theorem dX12_tellsChanges_267 : decode cX12_tellsChanges 267 = .ok (.iload 11, 2) := by decide +kernel
theorem dX12_tellsChanges_269 : decode cX12_tellsChanges 269 = .ok (.iaload, 1) := by decide +kernel
theorem dX12_tellsChanges_270 : decode cX12_tellsChanges 270 = .ok (.iadd, 1) := by decide +kernel
theorem dX12_tellsChanges_271 : decode cX12_tellsChanges 271 = .ok (.iaload, 1) := by decide +kernel
theorem dX12_tellsChanges_272 : decode cX12_tellsChanges 272 = .ok (.istore 14, 2) := by decide +kernel
theorem dX12_tellsChanges_274 : decode cX12_tellsChanges 274 = .ok (.iload 13, 2) := by decide +kernel
theorem dX12_tellsChanges_276 : decode cX12_tellsChanges 276 = .ok (.ifCond .ge 18, 3) := by decide +kernel
theorem dX12_tellsChanges_279 : decode cX12_tellsChanges 279 = .ok (.aload_n 0, 1) := by decide +kernel
theorem dX12_tellsChanges_280 : decode cX12_tellsChanges 280 = .ok (.getfield 49, 3) := by decide +kernel
theorem dX12_tellsChanges_283 : decode cX12_tellsChanges 283 = .ok (.aload_n 0, 1) := by decide +kernel
theorem dX12_tellsChanges_284 : decode cX12_tellsChanges 284 = .ok (.getfield 16, 3) := by decide +kernel
theorem dX12_tellsChanges_287 : decode cX12_tellsChanges 287 = .ok (.iload 11, 2) := by decide +kernel
theorem dX12_tellsChanges_289 : decode cX12_tellsChanges 289 = .ok (.iaload, 1) := by decide +kernel
theorem dX12_tellsChanges_290 : decode cX12_tellsChanges 290 = .ok (.iaload, 1) := by decide +kernel
theorem dX12_tellsChanges_291 : decode cX12_tellsChanges 291 = .ok (.goto 24, 3) := by decide +kernel
theorem dX12_tellsChanges_294 : decode cX12_tellsChanges 294 = .ok (.aload_n 0, 1) := by decide +kernel
theorem dX12_tellsChanges_295 : decode cX12_tellsChanges 295 = .ok (.getfield 52, 3) := by decide +kernel
theorem dX12_tellsChanges_298 : decode cX12_tellsChanges 298 = .ok (.bipush 120, 2) := by decide +kernel
theorem dX12_tellsChanges_300 : decode cX12_tellsChanges 300 = .ok (.iload 13, 2) := by decide +kernel
theorem dX12_tellsChanges_302 : decode cX12_tellsChanges 302 = .ok (.bipush 10, 2) := by decide +kernel
theorem dX12_tellsChanges_304 : decode cX12_tellsChanges 304 = .ok (.irem, 1) := by decide +kernel
theorem dX12_tellsChanges_305 : decode cX12_tellsChanges 305 = .ok (.imul, 1) := by decide +kernel
theorem dX12_tellsChanges_306 : decode cX12_tellsChanges 306 = .ok (.aload_n 0, 1) := by decide +kernel
theorem dX12_tellsChanges_307 : decode cX12_tellsChanges 307 = .ok (.getfield 16, 3) := by decide +kernel
theorem dX12_tellsChanges_310 : decode cX12_tellsChanges 310 = .ok (.iload 11, 2) := by decide +kernel
theorem dX12_tellsChanges_312 : decode cX12_tellsChanges 312 = .ok (.iaload, 1) := by decide +kernel
theorem dX12_tellsChanges_313 : decode cX12_tellsChanges 313 = .ok (.iadd, 1) := by decide +kernel
theorem dX12_tellsChanges_314 : decode cX12_tellsChanges 314 = .ok (.iaload, 1) := by decide +kernel
theorem dX12_tellsChanges_315 : decode cX12_tellsChanges 315 = .ok (.istore 15, 2) := by decide +kernel
theorem dX12_tellsChanges_317 : decode cX12_tellsChanges 317 = .ok (.aload_n 0, 1) := by decide +kernel
theorem dX12_tellsChanges_318 : decode cX12_tellsChanges 318 = .ok (.getfield 19, 3) := by decide +kernel
theorem dX12_tellsChanges_321 : decode cX12_tellsChanges 321 = .ok (.iload 11, 2) := by decide +kernel
theorem dX12_tellsChanges_323 : decode cX12_tellsChanges 323 = .ok (.iaload, 1) := by decide +kernel
theorem dX12_tellsChanges_324 : decode cX12_tellsChanges 324 = .ok (.iconst (-1), 1) := by decide +kernel
theorem dX12_tellsChanges_325 : decode cX12_tellsChanges 325 = .ok (.if_icmp .ne 20, 3) := by decide +kernel
theorem dX12_tellsChanges_328 : decode cX12_tellsChanges 328 = .ok (.aload_n 0, 1) := by decide +kernel
theorem dX12_tellsChanges_329 : decode cX12_tellsChanges 329 = .ok (.getfield 7, 3) := by decide +kernel
theorem dX12_tellsChanges_332 : decode cX12_tellsChanges 332 = .ok (.iload 11, 2) := by decide +kernel
theorem dX12_tellsChanges_334 : decode cX12_tellsChanges 334 = .ok (.iaload, 1) := by decide +kernel
theorem dX12_tellsChanges_335 : decode cX12_tellsChanges 335 = .ok (.iload 14, 2) := by decide +kernel
theorem dX12_tellsChanges_337 : decode cX12_tellsChanges 337 = .ok (.iload 15, 2) := by decide +kernel
theorem dX12_tellsChanges_339 : decode cX12_tellsChanges 339 = .ok (.invokestatic 118, 3) := by decide +kernel
theorem dX12_tellsChanges_342 : decode cX12_tellsChanges 342 = .ok (.goto 10, 3) := by decide +kernel
theorem dX12_tellsChanges_345 : decode cX12_tellsChanges 345 = .ok (.aload_n 0, 1) := by decide +kernel
theorem dX12_tellsChanges_346 : decode cX12_tellsChanges 346 = .ok (.getfield 19, 3) := by decide +kernel
theorem dX12_tellsChanges_349 : decode cX12_tellsChanges 349 = .ok (.iload 11, 2) := by decide +kernel
theorem dX12_tellsChanges_351 : decode cX12_tellsChanges 351 = .ok (.iaload, 1) := by decide +kernel
theorem dX12_tellsChanges_352 : decode cX12_tellsChanges 352 = .ok (.istore 12, 2) := by decide +kernel
theorem dX12_tellsChanges_354 : decode cX12_tellsChanges 354 = .ok (.iload 9, 2) := by decide +kernel
theorem dX12_tellsChanges_356 : decode cX12_tellsChanges 356 = .ok (.ifCond .ne 13, 3) := by decide +kernel
theorem dX12_tellsChanges_359 : decode cX12_tellsChanges 359 = .ok (.aload_n 0, 1) := by decide +kernel
theorem dX12_tellsChanges_360 : decode cX12_tellsChanges 360 = .ok (.getfield 49, 3) := by decide +kernel
theorem dX12_tellsChanges_363 : decode cX12_tellsChanges 363 = .ok (.iload 10, 2) := by decide +kernel
theorem dX12_tellsChanges_365 : decode cX12_tellsChanges 365 = .ok (.iaload, 1) := by decide +kernel
theorem dX12_tellsChanges_366 : decode cX12_tellsChanges 366 = .ok (.goto 21, 3) := by decide +kernel
theorem dX12_tellsChanges_369 : decode cX12_tellsChanges 369 = .ok (.aload_n 0, 1) := by decide +kernel
theorem dX12_tellsChanges_370 : decode cX12_tellsChanges 370 = .ok (.getfield 52, 3) := by decide +kernel
theorem dX12_tellsChanges_373 : decode cX12_tellsChanges 373 = .ok (.bipush 120, 2) := by decide +kernel
theorem dX12_tellsChanges_375 : decode cX12_tellsChanges 375 = .ok (.iload 9, 2) := by decide +kernel
theorem dX12_tellsChanges_377 : decode cX12_tellsChanges 377 = .ok (.iconst 1, 1) := by decide +kernel
theorem dX12_tellsChanges_378 : decode cX12_tellsChanges 378 = .ok (.isub, 1) := by decide +kernel
theorem dX12_tellsChanges_379 : decode cX12_tellsChanges 379 = .ok (.bipush 10, 2) := by decide +kernel
theorem dX12_tellsChanges_381 : decode cX12_tellsChanges 381 = .ok (.irem, 1) := by decide +kernel
theorem dX12_tellsChanges_382 : decode cX12_tellsChanges 382 = .ok (.imul, 1) := by decide +kernel
theorem dX12_tellsChanges_383 : decode cX12_tellsChanges 383 = .ok (.iload 10, 2) := by decide +kernel
theorem dX12_tellsChanges_385 : decode cX12_tellsChanges 385 = .ok (.iadd, 1) := by decide +kernel
theorem dX12_tellsChanges_386 : decode cX12_tellsChanges 386 = .ok (.iaload, 1) := by decide +kernel
theorem dX12_tellsChanges_387 : decode cX12_tellsChanges 387 = .ok (.istore 16, 2) := by decide +kernel
theorem dX12_tellsChanges_389 : decode cX12_tellsChanges 389 = .ok (.iload 6, 2) := by decide +kernel
theorem dX12_tellsChanges_391 : decode cX12_tellsChanges 391 = .ok (.iload 12, 2) := by decide +kernel
theorem dX12_tellsChanges_393 : decode cX12_tellsChanges 393 = .ok (.iload 16, 2) := by decide +kernel
theorem dX12_tellsChanges_395 : decode cX12_tellsChanges 395 = .ok (.if_icmp .ne 7, 3) := by decide +kernel
theorem dX12_tellsChanges_398 : decode cX12_tellsChanges 398 = .ok (.iconst 0, 1) := by decide +kernel
theorem dX12_tellsChanges_399 : decode cX12_tellsChanges 399 = .ok (.goto 4, 3) := by decide +kernel
theorem dX12_tellsChanges_402 : decode cX12_tellsChanges 402 = .ok (.iconst 1, 1) := by decide +kernel
theorem dX12_tellsChanges_403 : decode cX12_tellsChanges 403 = .ok (.iadd, 1) := by decide +kernel
theorem dX12_tellsChanges_404 : decode cX12_tellsChanges 404 = .ok (.istore 6, 2) := by decide +kernel
theorem dX12_tellsChanges_406 : decode cX12_tellsChanges 406 = .ok (.iload 12, 2) := by decide +kernel
theorem dX12_tellsChanges_408 : decode cX12_tellsChanges 408 = .ok (.iload 16, 2) := by decide +kernel
theorem dX12_tellsChanges_410 : decode cX12_tellsChanges 410 = .ok (.if_icmp .ne 8, 3) := by decide +kernel
theorem dX12_tellsChanges_413 : decode cX12_tellsChanges 413 = .ok (.iload 7, 2) := by decide +kernel
theorem dX12_tellsChanges_415 : decode cX12_tellsChanges 415 = .ok (.goto 5, 3) := by decide +kernel
theorem dX12_tellsChanges_418 : decode cX12_tellsChanges 418 = .ok (.iload 9, 2) := by decide +kernel
theorem dX12_tellsChanges_420 : decode cX12_tellsChanges 420 = .ok (.istore 7, 2) := by decide +kernel
theorem dX12_tellsChanges_422 : decode cX12_tellsChanges 422 = .ok (.iload 8, 2) := by decide +kernel
theorem dX12_tellsChanges_424 : decode cX12_tellsChanges 424 = .ok (.iload 12, 2) := by decide +kernel
theorem dX12_tellsChanges_426 : decode cX12_tellsChanges 426 = .ok (.iload 16, 2) := by decide +kernel
theorem dX12_tellsChanges_428 : decode cX12_tellsChanges 428 = .ok (.if_icmp .ne 7, 3) := by decide +kernel
theorem dX12_tellsChanges_431 : decode cX12_tellsChanges 431 = .ok (.iconst 0, 1) := by decide +kernel
theorem dX12_tellsChanges_432 : decode cX12_tellsChanges 432 = .ok (.goto 10, 3) := by decide +kernel
theorem dX12_tellsChanges_435 : decode cX12_tellsChanges 435 = .ok (.aload_n 0, 1) := by decide +kernel
theorem dX12_tellsChanges_436 : decode cX12_tellsChanges 436 = .ok (.getfield 46, 3) := by decide +kernel
theorem dX12_tellsChanges_439 : decode cX12_tellsChanges 439 = .ok (.iload 10, 2) := by decide +kernel
theorem dX12_tellsChanges_441 : decode cX12_tellsChanges 441 = .ok (.iaload, 1) := by decide +kernel
theorem dX12_tellsChanges_442 : decode cX12_tellsChanges 442 = .ok (.iadd, 1) := by decide +kernel
theorem dX12_tellsChanges_443 : decode cX12_tellsChanges 443 = .ok (.istore 8, 2) := by decide +kernel
theorem dX12_tellsChanges_445 : decode cX12_tellsChanges 445 = .ok (.aload_n 0, 1) := by decide +kernel
theorem dX12_tellsChanges_446 : decode cX12_tellsChanges 446 = .ok (.getfield 52, 3) := by decide +kernel
theorem dX12_tellsChanges_449 : decode cX12_tellsChanges 449 = .ok (.bipush 120, 2) := by decide +kernel
theorem dX12_tellsChanges_451 : decode cX12_tellsChanges 451 = .ok (.iload 9, 2) := by decide +kernel
theorem dX12_tellsChanges_453 : decode cX12_tellsChanges 453 = .ok (.bipush 10, 2) := by decide +kernel
theorem dX12_tellsChanges_455 : decode cX12_tellsChanges 455 = .ok (.irem, 1) := by decide +kernel
theorem dX12_tellsChanges_456 : decode cX12_tellsChanges 456 = .ok (.imul, 1) := by decide +kernel
theorem dX12_tellsChanges_457 : decode cX12_tellsChanges 457 = .ok (.iload 10, 2) := by decide +kernel
theorem dX12_tellsChanges_459 : decode cX12_tellsChanges 459 = .ok (.iadd, 1) := by decide +kernel
theorem dX12_tellsChanges_460 : decode cX12_tellsChanges 460 = .ok (.iload 12, 2) := by decide +kernel
theorem dX12_tellsChanges_462 : decode cX12_tellsChanges 462 = .ok (.iastore, 1) := by decide +kernel
theorem dX12_tellsChanges_463 : decode cX12_tellsChanges 463 = .ok (.iinc 10 1, 3) := by decide +kernel
theorem dX12_tellsChanges_466 : decode cX12_tellsChanges 466 = .ok (.goto (-292), 3) := by decide +kernel
theorem dX12_tellsChanges_469 : decode cX12_tellsChanges 469 = .ok (.iinc 9 1, 3) := by decide +kernel
theorem dX12_tellsChanges_472 : decode cX12_tellsChanges 472 = .ok (.goto (-308), 3) := by decide +kernel
theorem dX12_tellsChanges_475 : decode cX12_tellsChanges 475 = .ok (.iload 4, 2) := by decide +kernel
theorem dX12_tellsChanges_477 : decode cX12_tellsChanges 477 = .ok (.ifCond .ne 8, 3) := by decide +kernel
theorem dX12_tellsChanges_480 : decode cX12_tellsChanges 480 = .ok (.iload 6, 2) := by decide +kernel
theorem dX12_tellsChanges_482 : decode cX12_tellsChanges 482 = .ok (.goto 16, 3) := by decide +kernel
theorem dX12_tellsChanges_485 : decode cX12_tellsChanges 485 = .ok (.iload 4, 2) := by decide +kernel
theorem dX12_tellsChanges_487 : decode cX12_tellsChanges 487 = .ok (.iconst 1, 1) := by decide +kernel
theorem dX12_tellsChanges_488 : decode cX12_tellsChanges 488 = .ok (.if_icmp .ne 8, 3) := by decide +kernel
theorem dX12_tellsChanges_491 : decode cX12_tellsChanges 491 = .ok (.iload 7, 2) := by decide +kernel
theorem dX12_tellsChanges_493 : decode cX12_tellsChanges 493 = .ok (.goto 5, 3) := by decide +kernel
theorem dX12_tellsChanges_496 : decode cX12_tellsChanges 496 = .ok (.iload 8, 2) := by decide +kernel
theorem dX12_tellsChanges_498 : decode cX12_tellsChanges 498 = .ok (.ireturn, 1) := by decide +kernel
set_option maxRecDepth 20000 in
theorem ggX12_changes_X12_tellsChanges : GoodIn wsX12_changes wsX12_tellsChanges := goodIn_r _ [5, 6, 7, 8, 9, 10, 11, 12, 13, 14, 15, 16, 17, 18, 19, 20, 4, 21, 22, 23, 24, 25, 26, 27, 28, 29, 30, 31, 32, 33, 34, 35, 36, 37, 38, 39, 40, 41, 42, 43, 44, 45, 46, 47, 48, 49, 50, 51, 52, 53, 54, 55, 56, 57, 58, 59, 60, 61, 62, 63] (by decide +kernel) (by decide +kernel)
set_option maxRecDepth 20000 in
theorem gX12_changes_X12_tellsChanges : GoodIn wsX12_changes (wsV RX12 150 RX12 yX12_tellsChanges wsX12_tellsChanges) := goodIn_app (goodIn_of _ (by decide +kernel)) ggX12_changes_X12_tellsChanges
theorem dX12_changes_0 : decode cX12_changes 0 = .ok (.aload_n 0, 1) := by decide +kernel
theorem dX12_changes_1 : decode cX12_changes 1 = .ok (.iload_n 1, 1) := by decide +kernel
theorem dX12_changes_2 : decode cX12_changes 2 = .ok (.iload_n 2, 1) := by decide +kernel
theorem dX12_changes_3 : decode cX12_changes 3 = .ok (.iload_n 3, 1) := by decide +kernel
theorem dX12_changes_4 : decode cX12_changes 4 = .ok (.iload 4, 2) := by decide +kernel
theorem dX12_changes_6 : decode cX12_changes 6 = .ok (.invokevirtual 150, 3) := by decide +kernel
theorem dX12_changes_9 : decode cX12_changes 9 = .ok (.ireturn, 1) := by decide +kernel
set_option maxRecDepth 20000 in
theorem ggX12_changesAnew_X12_tellsChanges : GoodIn wsX12_changesAnew wsX12_tellsChanges := goodIn_r _ [5, 6, 7, 8, 9, 10, 11, 12, 13, 14, 15, 16, 17, 18, 19, 20, 4, 21, 22, 23, 24, 25, 26, 27, 28, 29, 30, 31, 32, 33, 34, 35, 36, 37, 38, 39, 40, 41, 42, 43, 44, 45, 46, 47, 48, 49, 50, 51, 52, 53, 54, 55, 56, 57, 58, 59, 60, 61, 62, 63] (by decide +kernel) (by decide +kernel)
set_option maxRecDepth 20000 in
theorem gX12_changesAnew_X12_tellsChanges : GoodIn wsX12_changesAnew (wsV RX12 150 RX12 yX12_tellsChanges wsX12_tellsChanges) := goodIn_app (goodIn_of _ (by decide +kernel)) ggX12_changesAnew_X12_tellsChanges
theorem dX12_changesAnew_0 : decode cX12_changesAnew 0 = .ok (.aload_n 0, 1) := by decide +kernel
theorem dX12_changesAnew_1 : decode cX12_changesAnew 1 = .ok (.iload_n 1, 1) := by decide +kernel
theorem dX12_changesAnew_2 : decode cX12_changesAnew 2 = .ok (.iload_n 2, 1) := by decide +kernel
theorem dX12_changesAnew_3 : decode cX12_changesAnew 3 = .ok (.iload_n 3, 1) := by decide +kernel
theorem dX12_changesAnew_4 : decode cX12_changesAnew 4 = .ok (.iload 4, 2) := by decide +kernel
theorem dX12_changesAnew_6 : decode cX12_changesAnew 6 = .ok (.invokevirtual 150, 3) := by decide +kernel
theorem dX12_changesAnew_9 : decode cX12_changesAnew 9 = .ok (.ireturn, 1) := by decide +kernel
set_option maxRecDepth 20000 in
theorem ggX12_isOperation_X12_isIn : GoodIn wsX12_isOperation wsX12_isIn := goodIn_r _ [4] (by decide +kernel) (by decide +kernel)
set_option maxRecDepth 20000 in
theorem gX12_isOperation_X12_isIn : GoodIn wsX12_isOperation (va_wsS RX12 77 yX12_isIn wsX12_isIn) := goodIn_app (goodIn_of _ (by decide +kernel)) ggX12_isOperation_X12_isIn
theorem dX12_isOperation_0 : decode cX12_isOperation 0 = .ok (.iload_n 0, 1) := by decide +kernel
theorem dX12_isOperation_1 : decode cX12_isOperation 1 = .ok (.iconst 0, 1) := by decide +kernel
theorem dX12_isOperation_2 : decode cX12_isOperation 2 = .ok (.iconst 1, 1) := by decide +kernel
theorem dX12_isOperation_3 : decode cX12_isOperation 3 = .ok (.invokestatic 77, 3) := by decide +kernel
theorem dX12_isOperation_6 : decode cX12_isOperation 6 = .ok (.ireturn, 1) := by decide +kernel
set_option maxRecDepth 20000 in
theorem ggX12_canBeHeld_X12_isIn : GoodIn wsX12_canBeHeld wsX12_isIn := goodIn_r _ [5] (by decide +kernel) (by decide +kernel)
set_option maxRecDepth 20000 in
theorem gX12_canBeHeld_X12_isIn : GoodIn wsX12_canBeHeld (va_wsS RX12 77 yX12_isIn wsX12_isIn) := goodIn_app (goodIn_of _ (by decide +kernel)) ggX12_canBeHeld_X12_isIn
theorem dX12_canBeHeld_0 : decode cX12_canBeHeld 0 = .ok (.aload_n 0, 1) := by decide +kernel
theorem dX12_canBeHeld_1 : decode cX12_canBeHeld 1 = .ok (.getfield 25, 3) := by decide +kernel
theorem dX12_canBeHeld_4 : decode cX12_canBeHeld 4 = .ok (.iload_n 1, 1) := by decide +kernel
theorem dX12_canBeHeld_5 : decode cX12_canBeHeld 5 = .ok (.iaload, 1) := by decide +kernel
theorem dX12_canBeHeld_6 : decode cX12_canBeHeld 6 = .ok (.iconst 2, 1) := by decide +kernel
theorem dX12_canBeHeld_7 : decode cX12_canBeHeld 7 = .ok (.bipush 12, 2) := by decide +kernel
theorem dX12_canBeHeld_9 : decode cX12_canBeHeld 9 = .ok (.invokestatic 77, 3) := by decide +kernel
theorem dX12_canBeHeld_12 : decode cX12_canBeHeld 12 = .ok (.ifCond .eq 18, 3) := by decide +kernel
theorem dX12_canBeHeld_15 : decode cX12_canBeHeld 15 = .ok (.aload_n 0, 1) := by decide +kernel
theorem dX12_canBeHeld_16 : decode cX12_canBeHeld 16 = .ok (.getfield 25, 3) := by decide +kernel
theorem dX12_canBeHeld_19 : decode cX12_canBeHeld 19 = .ok (.iload_n 1, 1) := by decide +kernel
theorem dX12_canBeHeld_20 : decode cX12_canBeHeld 20 = .ok (.iaload, 1) := by decide +kernel
theorem dX12_canBeHeld_21 : decode cX12_canBeHeld 21 = .ok (.iconst 2, 1) := by decide +kernel
theorem dX12_canBeHeld_22 : decode cX12_canBeHeld 22 = .ok (.irem, 1) := by decide +kernel
theorem dX12_canBeHeld_23 : decode cX12_canBeHeld 23 = .ok (.ifCond .ne 7, 3) := by decide +kernel
theorem dX12_canBeHeld_26 : decode cX12_canBeHeld 26 = .ok (.iconst 1, 1) := by decide +kernel
theorem dX12_canBeHeld_27 : decode cX12_canBeHeld 27 = .ok (.goto 4, 3) := by decide +kernel
theorem dX12_canBeHeld_30 : decode cX12_canBeHeld 30 = .ok (.iconst 0, 1) := by decide +kernel
theorem dX12_canBeHeld_31 : decode cX12_canBeHeld 31 = .ok (.ireturn, 1) := by decide +kernel
theorem dX12_due_0 : decode cX12_due 0 = .ok (.aload_n 0, 1) := by decide +kernel
theorem dX12_due_1 : decode cX12_due 1 = .ok (.getfield 25, 3) := by decide +kernel
theorem dX12_due_4 : decode cX12_due 4 = .ok (.iload_n 1, 1) := by decide +kernel
theorem dX12_due_5 : decode cX12_due 5 = .ok (.iaload, 1) := by decide +kernel
theorem dX12_due_6 : decode cX12_due 6 = .ok (.iconst 2, 1) := by decide +kernel
theorem dX12_due_7 : decode cX12_due 7 = .ok (.idiv, 1) := by decide +kernel
theorem dX12_due_8 : decode cX12_due 8 = .ok (.istore 4, 2) := by decide +kernel
theorem dX12_due_10 : decode cX12_due 10 = .ok (.iload_n 3, 1) := by decide +kernel
theorem dX12_due_11 : decode cX12_due 11 = .ok (.iconst 1, 1) := by decide +kernel
theorem dX12_due_12 : decode cX12_due 12 = .ok (.iload 4, 2) := by decide +kernel
theorem dX12_due_14 : decode cX12_due 14 = .ok (.ishl, 1) := by decide +kernel
theorem dX12_due_15 : decode cX12_due 15 = .ok (.iconst 1, 1) := by decide +kernel
theorem dX12_due_16 : decode cX12_due 16 = .ok (.isub, 1) := by decide +kernel
theorem dX12_due_17 : decode cX12_due 17 = .ok (.iand, 1) := by decide +kernel
theorem dX12_due_18 : decode cX12_due 18 = .ok (.istore 5, 2) := by decide +kernel
theorem dX12_due_20 : decode cX12_due 20 = .ok (.iload_n 3, 1) := by decide +kernel
theorem dX12_due_21 : decode cX12_due 21 = .ok (.iload 4, 2) := by decide +kernel
theorem dX12_due_23 : decode cX12_due 23 = .ok (.ishr, 1) := by decide +kernel
theorem dX12_due_24 : decode cX12_due 24 = .ok (.istore 6, 2) := by decide +kernel
theorem dX12_due_26 : decode cX12_due 26 = .ok (.iload_n 2, 1) := by decide +kernel
theorem dX12_due_27 : decode cX12_due 27 = .ok (.ifCond .ne 11, 3) := by decide +kernel
theorem dX12_due_30 : decode cX12_due 30 = .ok (.iload 5, 2) := by decide +kernel
theorem dX12_due_32 : decode cX12_due 32 = .ok (.iload 6, 2) := by decide +kernel
theorem dX12_due_34 : decode cX12_due 34 = .ok (.iadd, 1) := by decide +kernel
theorem dX12_due_35 : decode cX12_due 35 = .ok (.goto 8, 3) := by decide +kernel
theorem dX12_due_38 : decode cX12_due 38 = .ok (.iload 5, 2) := by decide +kernel
theorem dX12_due_40 : decode cX12_due 40 = .ok (.iload 6, 2) := by decide +kernel
theorem dX12_due_42 : decode cX12_due 42 = .ok (.imul, 1) := by decide +kernel
theorem dX12_due_43 : decode cX12_due 43 = .ok (.ireturn, 1) := by decide +kernel
set_option maxRecDepth 20000 in
theorem ggX12_off_X12_isNet : GoodIn wsX12_off wsX12_isNet := goodIn_r _ [6, 7, 8, 5, 9] (by decide +kernel) (by decide +kernel)
set_option maxRecDepth 20000 in
theorem gX12_off_X12_isNet : GoodIn wsX12_off (va_wsS RX12 81 yX12_isNet wsX12_isNet) := goodIn_app (goodIn_of _ (by decide +kernel)) ggX12_off_X12_isNet
set_option maxRecDepth 20000 in
theorem ggX12_off_X12_isOperation : GoodIn wsX12_off wsX12_isOperation := goodIn_r _ [12, 7, 8, 5, 9] (by decide +kernel) (by decide +kernel)
set_option maxRecDepth 20000 in
theorem gX12_off_X12_isOperation : GoodIn wsX12_off (va_wsS RX12 153 yX12_isOperation wsX12_isOperation) := goodIn_app (goodIn_of _ (by decide +kernel)) ggX12_off_X12_isOperation
set_option maxRecDepth 20000 in
theorem ggX12_off_X12_isIn : GoodIn wsX12_off wsX12_isIn := goodIn_r _ [9] (by decide +kernel) (by decide +kernel)
set_option maxRecDepth 20000 in
theorem gX12_off_X12_isIn : GoodIn wsX12_off (va_wsS RX12 77 yX12_isIn wsX12_isIn) := goodIn_app (goodIn_of _ (by decide +kernel)) ggX12_off_X12_isIn
set_option maxRecDepth 20000 in
theorem ggX12_off_X12_canBeHeld : GoodIn wsX12_off wsX12_canBeHeld := goodIn_r _ [16, 2, 7, 8, 5, 9, 40, 41, 42, 43, 44, 45, 46, 47, 48, 49, 50, 51, 52, 53, 54, 55, 56, 57, 58, 59, 60, 61, 62] (by decide +kernel) (by decide +kernel)
set_option maxRecDepth 20000 in
theorem gX12_off_X12_canBeHeld : GoodIn wsX12_off (wsV RX12 156 RX12 yX12_canBeHeld wsX12_canBeHeld) := goodIn_app (goodIn_of _ (by decide +kernel)) ggX12_off_X12_canBeHeld
set_option maxRecDepth 20000 in
theorem ggX12_off_X12_valueOf : GoodIn wsX12_off wsX12_valueOf := goodIn_r _ [20, 21, 22, 23, 24, 25, 26, 5, 27, 28, 29, 30, 31, 32, 33, 34, 35, 40, 41, 42, 43, 44, 45, 46, 47, 48, 49, 50, 51, 52, 53, 54, 55, 56, 57, 58, 59, 60, 61, 62] (by decide +kernel) (by decide +kernel)
set_option maxRecDepth 20000 in
theorem gX12_off_X12_valueOf : GoodIn wsX12_off (wsV RX12 128 RX12 yX12_valueOf wsX12_valueOf) := goodIn_app (goodIn_of _ (by decide +kernel)) ggX12_off_X12_valueOf
set_option maxRecDepth 20000 in
theorem ggX12_off_X12_due : GoodIn wsX12_off wsX12_due := goodIn_r _ [39, 2, 40, 41, 42, 43, 44, 45, 46, 47, 48, 49, 50, 51, 52, 53, 54, 55, 56, 57, 58, 59, 60, 61, 62] (by decide +kernel) (by decide +kernel)
set_option maxRecDepth 20000 in
theorem gX12_off_X12_due : GoodIn wsX12_off (wsV RX12 159 RX12 yX12_due wsX12_due) := goodIn_app (goodIn_of _ (by decide +kernel)) ggX12_off_X12_due
theorem dX12_off_0 : decode cX12_off 0 = .ok (.aload_n 0, 1) := by decide +kernel
theorem dX12_off_1 : decode cX12_off 1 = .ok (.iload_n 1, 1) := by decide +kernel
theorem dX12_off_2 : decode cX12_off 2 = .ok (.invokestatic 81, 3) := by decide +kernel
theorem dX12_off_5 : decode cX12_off 5 = .ok (.ifCond .ne 7, 3) := by decide +kernel
theorem dX12_off_8 : decode cX12_off 8 = .ok (.iconst 1, 1) := by decide +kernel
theorem dX12_off_9 : decode cX12_off 9 = .ok (.goto 36, 3) := by decide +kernel
theorem dX12_off_12 : decode cX12_off 12 = .ok (.iload_n 2, 1) := by decide +kernel
theorem dX12_off_13 : decode cX12_off 13 = .ok (.invokestatic 153, 3) := by decide +kernel
theorem dX12_off_16 : decode cX12_off 16 = .ok (.ifCond .eq 12, 3) := by decide +kernel
theorem dX12_off_19 : decode cX12_off 19 = .ok (.iload_n 3, 1) := by decide +kernel
theorem dX12_off_20 : decode cX12_off 20 = .ok (.iconst 0, 1) := by decide +kernel
theorem dX12_off_21 : decode cX12_off 21 = .ok (.iconst 3, 1) := by decide +kernel
theorem dX12_off_22 : decode cX12_off 22 = .ok (.invokestatic 77, 3) := by decide +kernel
theorem dX12_off_25 : decode cX12_off 25 = .ok (.ifCond .ne 7, 3) := by decide +kernel
theorem dX12_off_28 : decode cX12_off 28 = .ok (.iconst 2, 1) := by decide +kernel
theorem dX12_off_29 : decode cX12_off 29 = .ok (.goto 16, 3) := by decide +kernel
theorem dX12_off_32 : decode cX12_off 32 = .ok (.aload_n 0, 1) := by decide +kernel
theorem dX12_off_33 : decode cX12_off 33 = .ok (.iload_n 1, 1) := by decide +kernel
theorem dX12_off_34 : decode cX12_off 34 = .ok (.invokevirtual 156, 3) := by decide +kernel
theorem dX12_off_37 : decode cX12_off 37 = .ok (.ifCond .ne 7, 3) := by decide +kernel
theorem dX12_off_40 : decode cX12_off 40 = .ok (.iconst 3, 1) := by decide +kernel
theorem dX12_off_41 : decode cX12_off 41 = .ok (.goto 4, 3) := by decide +kernel
theorem dX12_off_44 : decode cX12_off 44 = .ok (.iconst 0, 1) := by decide +kernel
theorem dX12_off_45 : decode cX12_off 45 = .ok (.putfield 73, 3) := by decide +kernel
theorem dX12_off_48 : decode cX12_off 48 = .ok (.aload_n 0, 1) := by decide +kernel
theorem dX12_off_49 : decode cX12_off 49 = .ok (.getfield 73, 3) := by decide +kernel
theorem dX12_off_52 : decode cX12_off 52 = .ok (.ifCond .le 5, 3) := by decide +kernel
theorem dX12_off_55 : decode cX12_off 55 = .ok (.iconst 0, 1) := by decide +kernel
theorem dX12_off_56 : decode cX12_off 56 = .ok (.ireturn, 1) := by decide +kernel
theorem dX12_off_57 : decode cX12_off 57 = .ok (.iconst 0, 1) := by decide +kernel
theorem dX12_off_58 : decode cX12_off 58 = .ok (.istore 4, 2) := by decide +kernel
theorem dX12_off_60 : decode cX12_off 60 = .ok (.iconst 0, 1) := by decide +kernel
theorem dX12_off_61 : decode cX12_off 61 = .ok (.istore 5, 2) := by decide +kernel
theorem dX12_off_63 : decode cX12_off 63 = .ok (.iconst 0, 1) := by decide +kernel
theorem dX12_off_64 : decode cX12_off 64 = .ok (.istore 6, 2) := by decide +kernel
theorem dX12_off_66 : decode cX12_off 66 = .ok (.iconst (-1), 1) := by decide +kernel
theorem dX12_off_67 : decode cX12_off 67 = .ok (.istore 7, 2) := by decide +kernel
theorem dX12_off_69 : decode cX12_off 69 = .ok (.iconst 0, 1) := by decide +kernel
theorem dX12_off_70 : decode cX12_off 70 = .ok (.istore 8, 2) := by decide +kernel
theorem dX12_off_72 : decode cX12_off 72 = .ok (.iload 8, 2) := by decide +kernel
theorem dX12_off_74 : decode cX12_off 74 = .ok (.iconst 1, 1) := by decide +kernel
theorem dX12_off_75 : decode cX12_off 75 = .ok (.aload_n 0, 1) := by decide +kernel
theorem dX12_off_76 : decode cX12_off 76 = .ok (.getfield 25, 3) := by decide +kernel
theorem dX12_off_79 : decode cX12_off 79 = .ok (.iload_n 1, 1) := by decide +kernel
theorem dX12_off_80 : decode cX12_off 80 = .ok (.iaload, 1) := by decide +kernel
theorem dX12_off_81 : decode cX12_off 81 = .ok (.ishl, 1) := by decide +kernel
theorem dX12_off_82 : decode cX12_off 82 = .ok (.if_icmp .ge 100, 3) := by decide +kernel
theorem dX12_off_85 : decode cX12_off 85 = .ok (.aload_n 0, 1) := by decide +kernel
theorem dX12_off_86 : decode cX12_off 86 = .ok (.iload_n 1, 1) := by decide +kernel
theorem dX12_off_87 : decode cX12_off 87 = .ok (.iload 8, 2) := by decide +kernel
theorem dX12_off_89 : decode cX12_off 89 = .ok (.invokevirtual 128, 3) := by decide +kernel
theorem dX12_off_92 : decode cX12_off 92 = .ok (.aload_n 0, 1) := by decide +kernel
theorem dX12_off_93 : decode cX12_off 93 = .ok (.iload_n 1, 1) := by decide +kernel
theorem dX12_off_94 : decode cX12_off 94 = .ok (.iload_n 2, 1) := by decide +kernel
theorem dX12_off_95 : decode cX12_off 95 = .ok (.iload 8, 2) := by decide +kernel
theorem dX12_off_97 : decode cX12_off 97 = .ok (.invokevirtual 159, 3) := by decide +kernel
theorem dX12_off_100 : decode cX12_off 100 = .ok (.isub, 1) := by decide +kernel
theorem dX12_off_101 : decode cX12_off 101 = .ok (.istore 9, 2) := by decide +kernel
theorem dX12_off_103 : decode cX12_off 103 = .ok (.iload 9, 2) := by decide +kernel
theorem dX12_off_105 : decode cX12_off 105 = .ok (.ifCond .ge 9, 3) := by decide +kernel
theorem dX12_off_108 : decode cX12_off 108 = .ok (.iload 9, 2) := by decide +kernel
theorem dX12_off_110 : decode cX12_off 110 = .ok (.ineg, 1) := by decide +kernel
theorem dX12_off_111 : decode cX12_off 111 = .ok (.goto 5, 3) := by decide +kernel
theorem dX12_off_114 : decode cX12_off 114 = .ok (.iload 9, 2) := by decide +kernel
theorem dX12_off_116 : decode cX12_off 116 = .ok (.istore 9, 2) := by decide +kernel
theorem dX12_off_118 : decode cX12_off 118 = .ok (.iload 4, 2) := by decide +kernel
theorem dX12_off_120 : decode cX12_off 120 = .ok (.iload 9, 2) := by decide +kernel
theorem dX12_off_122 : decode cX12_off 122 = .ok (.ifCond .le 7, 3) := by decide +kernel
theorem dX12_off_125 : decode cX12_off 125 = .ok (.iconst 1, 1) := by decide +kernel
theorem dX12_off_126 : decode cX12_off 126 = .ok (.goto 4, 3) := by decide +kernel
theorem dX12_off_129 : decode cX12_off 129 = .ok (.iconst 0, 1) := by decide +kernel
theorem dX12_off_130 : decode cX12_off 130 = .ok (.iadd, 1) := by decide +kernel
theorem dX12_off_131 : decode cX12_off 131 = .ok (.istore 4, 2) := by decide +kernel
theorem dX12_off_133 : decode cX12_off 133 = .ok (.iload 9, 2) := by decide +kernel
theorem dX12_off_135 : decode cX12_off 135 = .ok (.iload 5, 2) := by decide +kernel
theorem dX12_off_137 : decode cX12_off 137 = .ok (.if_icmp .le 8, 3) := by decide +kernel
theorem dX12_off_140 : decode cX12_off 140 = .ok (.iload 9, 2) := by decide +kernel
theorem dX12_off_142 : decode cX12_off 142 = .ok (.goto 5, 3) := by decide +kernel
theorem dX12_off_145 : decode cX12_off 145 = .ok (.iload 5, 2) := by decide +kernel
theorem dX12_off_147 : decode cX12_off 147 = .ok (.istore 5, 2) := by decide +kernel
theorem dX12_off_149 : decode cX12_off 149 = .ok (.iload 6, 2) := by decide +kernel
theorem dX12_off_151 : decode cX12_off 151 = .ok (.iload 9, 2) := by decide +kernel
theorem dX12_off_153 : decode cX12_off 153 = .ok (.iadd, 1) := by decide +kernel
theorem dX12_off_154 : decode cX12_off 154 = .ok (.istore 6, 2) := by decide +kernel
theorem dX12_off_156 : decode cX12_off 156 = .ok (.iload 9, 2) := by decide +kernel
theorem dX12_off_158 : decode cX12_off 158 = .ok (.ifCond .le 14, 3) := by decide +kernel
theorem dX12_off_161 : decode cX12_off 161 = .ok (.iload 7, 2) := by decide +kernel
theorem dX12_off_163 : decode cX12_off 163 = .ok (.iconst (-1), 1) := by decide +kernel
theorem dX12_off_164 : decode cX12_off 164 = .ok (.if_icmp .ne 8, 3) := by decide +kernel
theorem dX12_off_167 : decode cX12_off 167 = .ok (.iload 8, 2) := by decide +kernel
theorem dX12_off_169 : decode cX12_off 169 = .ok (.goto 5, 3) := by decide +kernel
theorem dX12_off_172 : decode cX12_off 172 = .ok (.iload 7, 2) := by decide +kernel
theorem dX12_off_174 : decode cX12_off 174 = .ok (.istore 7, 2) := by decide +kernel
theorem dX12_off_176 : decode cX12_off 176 = .ok (.iinc 8 1, 3) := by decide +kernel
theorem dX12_off_179 : decode cX12_off 179 = .ok (.goto (-107), 3) := by decide +kernel
theorem dX12_off_182 : decode cX12_off 182 = .ok (.iload_n 3, 1) := by decide +kernel
theorem dX12_off_183 : decode cX12_off 183 = .ok (.ifCond .ne 8, 3) := by decide +kernel
theorem dX12_off_186 : decode cX12_off 186 = .ok (.iload 4, 2) := by decide +kernel
theorem dX12_off_188 : decode cX12_off 188 = .ok (.goto 25, 3) := by decide +kernel
theorem dX12_off_191 : decode cX12_off 191 = .ok (.iload_n 3, 1) := by decide +kernel
theorem dX12_off_192 : decode cX12_off 192 = .ok (.iconst 1, 1) := by decide +kernel
theorem dX12_off_193 : decode cX12_off 193 = .ok (.if_icmp .ne 8, 3) := by decide +kernel
theorem dX12_off_196 : decode cX12_off 196 = .ok (.iload 5, 2) := by decide +kernel
theorem dX12_off_198 : decode cX12_off 198 = .ok (.goto 15, 3) := by decide +kernel
theorem dX12_off_201 : decode cX12_off 201 = .ok (.iload_n 3, 1) := by decide +kernel
theorem dX12_off_202 : decode cX12_off 202 = .ok (.iconst 2, 1) := by decide +kernel
theorem dX12_off_203 : decode cX12_off 203 = .ok (.if_icmp .ne 8, 3) := by decide +kernel
theorem dX12_off_206 : decode cX12_off 206 = .ok (.iload 6, 2) := by decide +kernel
theorem dX12_off_208 : decode cX12_off 208 = .ok (.goto 5, 3) := by decide +kernel
theorem dX12_off_211 : decode cX12_off 211 = .ok (.iload 7, 2) := by decide +kernel
theorem dX12_off_213 : decode cX12_off 213 = .ok (.ireturn, 1) := by decide +kernel
set_option maxRecDepth 20000 in
theorem ggX12_unseen_X12_isNet : GoodIn wsX12_unseen wsX12_isNet := goodIn_r _ [6, 7, 8, 5, 9] (by decide +kernel) (by decide +kernel)
set_option maxRecDepth 20000 in
theorem gX12_unseen_X12_isNet : GoodIn wsX12_unseen (va_wsS RX12 81 yX12_isNet wsX12_isNet) := goodIn_app (goodIn_of _ (by decide +kernel)) ggX12_unseen_X12_isNet
set_option maxRecDepth 20000 in
theorem ggX12_unseen_X12_isOperation : GoodIn wsX12_unseen wsX12_isOperation := goodIn_r _ [12, 7, 8, 5, 9] (by decide +kernel) (by decide +kernel)
set_option maxRecDepth 20000 in
theorem gX12_unseen_X12_isOperation : GoodIn wsX12_unseen (va_wsS RX12 153 yX12_isOperation wsX12_isOperation) := goodIn_app (goodIn_of _ (by decide +kernel)) ggX12_unseen_X12_isOperation
set_option maxRecDepth 20000 in
theorem ggX12_unseen_X12_isIn : GoodIn wsX12_unseen wsX12_isIn := goodIn_r _ [9] (by decide +kernel) (by decide +kernel)
set_option maxRecDepth 20000 in
theorem gX12_unseen_X12_isIn : GoodIn wsX12_unseen (va_wsS RX12 77 yX12_isIn wsX12_isIn) := goodIn_app (goodIn_of _ (by decide +kernel)) ggX12_unseen_X12_isIn
set_option maxRecDepth 20000 in
theorem ggX12_unseen_X12_canBeHeld : GoodIn wsX12_unseen wsX12_canBeHeld := goodIn_r _ [16, 2, 7, 8, 5, 9, 40, 41, 42, 43, 44, 45, 46, 47, 48, 49, 50, 51, 52, 53, 54, 55, 56, 57, 58, 59, 60, 61, 62] (by decide +kernel) (by decide +kernel)
set_option maxRecDepth 20000 in
theorem gX12_unseen_X12_canBeHeld : GoodIn wsX12_unseen (wsV RX12 156 RX12 yX12_canBeHeld wsX12_canBeHeld) := goodIn_app (goodIn_of _ (by decide +kernel)) ggX12_unseen_X12_canBeHeld
set_option maxRecDepth 20000 in
theorem ggX12_unseen_X12_valueOf : GoodIn wsX12_unseen wsX12_valueOf := goodIn_r _ [20, 21, 22, 23, 24, 25, 26, 5, 27, 28, 29, 30, 31, 32, 33, 34, 35, 40, 41, 42, 43, 44, 45, 46, 47, 48, 49, 50, 51, 52, 53, 54, 55, 56, 57, 58, 59, 60, 61, 62] (by decide +kernel) (by decide +kernel)
set_option maxRecDepth 20000 in
theorem gX12_unseen_X12_valueOf : GoodIn wsX12_unseen (wsV RX12 128 RX12 yX12_valueOf wsX12_valueOf) := goodIn_app (goodIn_of _ (by decide +kernel)) ggX12_unseen_X12_valueOf
set_option maxRecDepth 20000 in
theorem ggX12_unseen_X12_due : GoodIn wsX12_unseen wsX12_due := goodIn_r _ [39, 2, 40, 41, 42, 43, 44, 45, 46, 47, 48, 49, 50, 51, 52, 53, 54, 55, 56, 57, 58, 59, 60, 61, 62] (by decide +kernel) (by decide +kernel)
set_option maxRecDepth 20000 in
theorem gX12_unseen_X12_due : GoodIn wsX12_unseen (wsV RX12 159 RX12 yX12_due wsX12_due) := goodIn_app (goodIn_of _ (by decide +kernel)) ggX12_unseen_X12_due
theorem dX12_unseen_0 : decode cX12_unseen 0 = .ok (.aload_n 0, 1) := by decide +kernel
theorem dX12_unseen_1 : decode cX12_unseen 1 = .ok (.iload_n 1, 1) := by decide +kernel
theorem dX12_unseen_2 : decode cX12_unseen 2 = .ok (.invokestatic 81, 3) := by decide +kernel
theorem dX12_unseen_5 : decode cX12_unseen 5 = .ok (.ifCond .ne 7, 3) := by decide +kernel
theorem dX12_unseen_8 : decode cX12_unseen 8 = .ok (.iconst 1, 1) := by decide +kernel
theorem dX12_unseen_9 : decode cX12_unseen 9 = .ok (.goto 37, 3) := by decide +kernel
theorem dX12_unseen_12 : decode cX12_unseen 12 = .ok (.iload_n 2, 1) := by decide +kernel
theorem dX12_unseen_13 : decode cX12_unseen 13 = .ok (.invokestatic 153, 3) := by decide +kernel
theorem dX12_unseen_16 : decode cX12_unseen 16 = .ok (.ifCond .eq 13, 3) := by decide +kernel
theorem dX12_unseen_19 : decode cX12_unseen 19 = .ok (.iload_n 3, 1) := by decide +kernel
theorem dX12_unseen_20 : decode cX12_unseen 20 = .ok (.iconst 2, 1) := by decide +kernel
theorem dX12_unseen_21 : decode cX12_unseen 21 = .ok (.bipush 99, 2) := by decide +kernel
theorem dX12_unseen_23 : decode cX12_unseen 23 = .ok (.invokestatic 77, 3) := by decide +kernel
theorem dX12_unseen_26 : decode cX12_unseen 26 = .ok (.ifCond .ne 7, 3) := by decide +kernel
theorem dX12_unseen_29 : decode cX12_unseen 29 = .ok (.iconst 2, 1) := by decide +kernel
theorem dX12_unseen_30 : decode cX12_unseen 30 = .ok (.goto 16, 3) := by decide +kernel
theorem dX12_unseen_33 : decode cX12_unseen 33 = .ok (.aload_n 0, 1) := by decide +kernel
theorem dX12_unseen_34 : decode cX12_unseen 34 = .ok (.iload_n 1, 1) := by decide +kernel
theorem dX12_unseen_35 : decode cX12_unseen 35 = .ok (.invokevirtual 156, 3) := by decide +kernel
theorem dX12_unseen_38 : decode cX12_unseen 38 = .ok (.ifCond .ne 7, 3) := by decide +kernel
theorem dX12_unseen_41 : decode cX12_unseen 41 = .ok (.iconst 3, 1) := by decide +kernel
theorem dX12_unseen_42 : decode cX12_unseen 42 = .ok (.goto 4, 3) := by decide +kernel
theorem dX12_unseen_45 : decode cX12_unseen 45 = .ok (.iconst 0, 1) := by decide +kernel
theorem dX12_unseen_46 : decode cX12_unseen 46 = .ok (.putfield 73, 3) := by decide +kernel
theorem dX12_unseen_49 : decode cX12_unseen 49 = .ok (.aload_n 0, 1) := by decide +kernel
theorem dX12_unseen_50 : decode cX12_unseen 50 = .ok (.getfield 73, 3) := by decide +kernel
theorem dX12_unseen_53 : decode cX12_unseen 53 = .ok (.ifCond .le 5, 3) := by decide +kernel
theorem dX12_unseen_56 : decode cX12_unseen 56 = .ok (.iconst 0, 1) := by decide +kernel
theorem dX12_unseen_57 : decode cX12_unseen 57 = .ok (.ireturn, 1) := by decide +kernel
theorem dX12_unseen_58 : decode cX12_unseen 58 = .ok (.iconst 0, 1) := by decide +kernel
theorem dX12_unseen_59 : decode cX12_unseen 59 = .ok (.istore 4, 2) := by decide +kernel
theorem dX12_unseen_61 : decode cX12_unseen 61 = .ok (.iconst 0, 1) := by decide +kernel
theorem dX12_unseen_62 : decode cX12_unseen 62 = .ok (.istore 5, 2) := by decide +kernel
theorem dX12_unseen_64 : decode cX12_unseen 64 = .ok (.iload 5, 2) := by decide +kernel
theorem dX12_unseen_66 : decode cX12_unseen 66 = .ok (.iconst 1, 1) := by decide +kernel
theorem dX12_unseen_67 : decode cX12_unseen 67 = .ok (.aload_n 0, 1) := by decide +kernel
theorem dX12_unseen_68 : decode cX12_unseen 68 = .ok (.getfield 25, 3) := by decide +kernel
theorem dX12_unseen_71 : decode cX12_unseen 71 = .ok (.iload_n 1, 1) := by decide +kernel
theorem dX12_unseen_72 : decode cX12_unseen 72 = .ok (.iaload, 1) := by decide +kernel
theorem dX12_unseen_73 : decode cX12_unseen 73 = .ok (.ishl, 1) := by decide +kernel
theorem dX12_unseen_74 : decode cX12_unseen 74 = .ok (.if_icmp .ge 49, 3) := by decide +kernel
theorem dX12_unseen_77 : decode cX12_unseen 77 = .ok (.aload_n 0, 1) := by decide +kernel
theorem dX12_unseen_78 : decode cX12_unseen 78 = .ok (.iload_n 1, 1) := by decide +kernel
theorem dX12_unseen_79 : decode cX12_unseen 79 = .ok (.iload 5, 2) := by decide +kernel
theorem dX12_unseen_81 : decode cX12_unseen 81 = .ok (.invokevirtual 128, 3) := by decide +kernel
theorem dX12_unseen_84 : decode cX12_unseen 84 = .ok (.aload_n 0, 1) := by decide +kernel
theorem dX12_unseen_85 : decode cX12_unseen 85 = .ok (.iload_n 1, 1) := by decide +kernel
theorem dX12_unseen_86 : decode cX12_unseen 86 = .ok (.iload_n 2, 1) := by decide +kernel
theorem dX12_unseen_87 : decode cX12_unseen 87 = .ok (.iload 5, 2) := by decide +kernel
theorem dX12_unseen_89 : decode cX12_unseen 89 = .ok (.invokevirtual 159, 3) := by decide +kernel
theorem dX12_unseen_92 : decode cX12_unseen 92 = .ok (.isub, 1) := by decide +kernel
theorem dX12_unseen_93 : decode cX12_unseen 93 = .ok (.istore 6, 2) := by decide +kernel
theorem dX12_unseen_95 : decode cX12_unseen 95 = .ok (.iload 4, 2) := by decide +kernel
theorem dX12_unseen_97 : decode cX12_unseen 97 = .ok (.iload 6, 2) := by decide +kernel
theorem dX12_unseen_99 : decode cX12_unseen 99 = .ok (.ifCond .eq 14, 3) := by decide +kernel
theorem dX12_unseen_102 : decode cX12_unseen 102 = .ok (.iload 6, 2) := by decide +kernel
theorem dX12_unseen_104 : decode cX12_unseen 104 = .ok (.iload_n 3, 1) := by decide +kernel
theorem dX12_unseen_105 : decode cX12_unseen 105 = .ok (.irem, 1) := by decide +kernel
theorem dX12_unseen_106 : decode cX12_unseen 106 = .ok (.ifCond .ne 7, 3) := by decide +kernel
theorem dX12_unseen_109 : decode cX12_unseen 109 = .ok (.iconst 1, 1) := by decide +kernel
theorem dX12_unseen_110 : decode cX12_unseen 110 = .ok (.goto 4, 3) := by decide +kernel
theorem dX12_unseen_113 : decode cX12_unseen 113 = .ok (.iconst 0, 1) := by decide +kernel
theorem dX12_unseen_114 : decode cX12_unseen 114 = .ok (.iadd, 1) := by decide +kernel
theorem dX12_unseen_115 : decode cX12_unseen 115 = .ok (.istore 4, 2) := by decide +kernel
theorem dX12_unseen_117 : decode cX12_unseen 117 = .ok (.iinc 5 1, 3) := by decide +kernel
theorem dX12_unseen_120 : decode cX12_unseen 120 = .ok (.goto (-56), 3) := by decide +kernel
theorem dX12_unseen_123 : decode cX12_unseen 123 = .ok (.iload 4, 2) := by decide +kernel
theorem dX12_unseen_125 : decode cX12_unseen 125 = .ok (.ireturn, 1) := by decide +kernel
set_option maxRecDepth 20000 in
theorem ggX12_unlike_X12_isNet : GoodIn wsX12_unlike wsX12_isNet := goodIn_r _ [6, 7, 8, 5, 9] (by decide +kernel) (by decide +kernel)
set_option maxRecDepth 20000 in
theorem gX12_unlike_X12_isNet : GoodIn wsX12_unlike (va_wsS RX12 81 yX12_isNet wsX12_isNet) := goodIn_app (goodIn_of _ (by decide +kernel)) ggX12_unlike_X12_isNet
set_option maxRecDepth 20000 in
theorem ggX12_unlike_X12_valueOf : GoodIn wsX12_unlike wsX12_valueOf := goodIn_r _ [13, 14, 15, 16, 17, 18, 19, 5, 20, 21, 22, 23, 24, 25, 26, 27, 28, 29, 30, 31, 32, 33, 34, 35, 36, 37, 38, 39, 40, 41, 42, 43, 44, 45, 46, 47, 48, 49, 50, 51] (by decide +kernel) (by decide +kernel)
set_option maxRecDepth 20000 in
theorem gX12_unlike_X12_valueOf : GoodIn wsX12_unlike (wsV RX12 128 RX12 yX12_valueOf wsX12_valueOf) := goodIn_app (goodIn_of _ (by decide +kernel)) ggX12_unlike_X12_valueOf
theorem dX12_unlike_0 : decode cX12_unlike 0 = .ok (.aload_n 0, 1) := by decide +kernel
theorem dX12_unlike_1 : decode cX12_unlike 1 = .ok (.iload_n 1, 1) := by decide +kernel
theorem dX12_unlike_2 : decode cX12_unlike 2 = .ok (.invokestatic 81, 3) := by decide +kernel
theorem dX12_unlike_5 : decode cX12_unlike 5 = .ok (.ifCond .eq 10, 3) := by decide +kernel
theorem dX12_unlike_8 : decode cX12_unlike 8 = .ok (.iload_n 2, 1) := by decide +kernel
theorem dX12_unlike_9 : decode cX12_unlike 9 = .ok (.invokestatic 81, 3) := by decide +kernel
theorem dX12_unlike_12 : decode cX12_unlike 12 = .ok (.ifCond .ne 7, 3) := by decide +kernel
theorem dX12_unlike_15 : decode cX12_unlike 15 = .ok (.iconst 1, 1) := by decide +kernel
theorem dX12_unlike_16 : decode cX12_unlike 16 = .ok (.goto 34, 3) := by decide +kernel
theorem dX12_unlike_19 : decode cX12_unlike 19 = .ok (.aload_n 0, 1) := by decide +kernel
theorem dX12_unlike_20 : decode cX12_unlike 20 = .ok (.getfield 25, 3) := by decide +kernel
theorem dX12_unlike_23 : decode cX12_unlike 23 = .ok (.iload_n 1, 1) := by decide +kernel
theorem dX12_unlike_24 : decode cX12_unlike 24 = .ok (.iaload, 1) := by decide +kernel
theorem dX12_unlike_25 : decode cX12_unlike 25 = .ok (.aload_n 0, 1) := by decide +kernel
theorem dX12_unlike_26 : decode cX12_unlike 26 = .ok (.getfield 25, 3) := by decide +kernel
theorem dX12_unlike_29 : decode cX12_unlike 29 = .ok (.iload_n 2, 1) := by decide +kernel
theorem dX12_unlike_30 : decode cX12_unlike 30 = .ok (.iaload, 1) := by decide +kernel
theorem dX12_unlike_31 : decode cX12_unlike 31 = .ok (.if_icmp .ne 14, 3) := by decide +kernel
theorem dX12_unlike_34 : decode cX12_unlike 34 = .ok (.aload_n 0, 1) := by decide +kernel
theorem dX12_unlike_35 : decode cX12_unlike 35 = .ok (.getfield 25, 3) := by decide +kernel
theorem dX12_unlike_38 : decode cX12_unlike 38 = .ok (.iload_n 1, 1) := by decide +kernel
theorem dX12_unlike_39 : decode cX12_unlike 39 = .ok (.iaload, 1) := by decide +kernel
theorem dX12_unlike_40 : decode cX12_unlike 40 = .ok (.bipush 12, 2) := by decide +kernel
theorem dX12_unlike_42 : decode cX12_unlike 42 = .ok (.if_icmp .le 7, 3) := by decide +kernel
theorem dX12_unlike_45 : decode cX12_unlike 45 = .ok (.iconst 2, 1) := by decide +kernel
theorem dX12_unlike_46 : decode cX12_unlike 46 = .ok (.goto 4, 3) := by decide +kernel
theorem dX12_unlike_49 : decode cX12_unlike 49 = .ok (.iconst 0, 1) := by decide +kernel
theorem dX12_unlike_50 : decode cX12_unlike 50 = .ok (.putfield 73, 3) := by decide +kernel
theorem dX12_unlike_53 : decode cX12_unlike 53 = .ok (.aload_n 0, 1) := by decide +kernel
theorem dX12_unlike_54 : decode cX12_unlike 54 = .ok (.getfield 73, 3) := by decide +kernel
theorem dX12_unlike_57 : decode cX12_unlike 57 = .ok (.ifCond .le 5, 3) := by decide +kernel
theorem dX12_unlike_60 : decode cX12_unlike 60 = .ok (.iconst 0, 1) := by decide +kernel
theorem dX12_unlike_61 : decode cX12_unlike 61 = .ok (.ireturn, 1) := by decide +kernel
theorem dX12_unlike_62 : decode cX12_unlike 62 = .ok (.iconst 0, 1) := by decide +kernel
theorem dX12_unlike_63 : decode cX12_unlike 63 = .ok (.istore_n 3, 1) := by decide +kernel
theorem dX12_unlike_64 : decode cX12_unlike 64 = .ok (.iload_n 3, 1) := by decide +kernel
theorem dX12_unlike_65 : decode cX12_unlike 65 = .ok (.iconst 1, 1) := by decide +kernel
theorem dX12_unlike_66 : decode cX12_unlike 66 = .ok (.aload_n 0, 1) := by decide +kernel
theorem dX12_unlike_67 : decode cX12_unlike 67 = .ok (.getfield 25, 3) := by decide +kernel
theorem dX12_unlike_70 : decode cX12_unlike 70 = .ok (.iload_n 1, 1) := by decide +kernel
theorem dX12_unlike_71 : decode cX12_unlike 71 = .ok (.iaload, 1) := by decide +kernel
theorem dX12_unlike_72 : decode cX12_unlike 72 = .ok (.ishl, 1) := by decide +kernel
theorem dX12_unlike_73 : decode cX12_unlike 73 = .ok (.if_icmp .ge 30, 3) := by decide +kernel
theorem dX12_unlike_76 : decode cX12_unlike 76 = .ok (.aload_n 0, 1) := by decide +kernel
theorem dX12_unlike_77 : decode cX12_unlike 77 = .ok (.iload_n 1, 1) := by decide +kernel
theorem dX12_unlike_78 : decode cX12_unlike 78 = .ok (.iload_n 3, 1) := by decide +kernel
theorem dX12_unlike_79 : decode cX12_unlike 79 = .ok (.invokevirtual 128, 3) := by decide +kernel
theorem dX12_unlike_82 : decode cX12_unlike 82 = .ok (.istore 4, 2) := by decide +kernel
theorem dX12_unlike_84 : decode cX12_unlike 84 = .ok (.aload_n 0, 1) := by decide +kernel
theorem dX12_unlike_85 : decode cX12_unlike 85 = .ok (.iload_n 2, 1) := by decide +kernel
theorem dX12_unlike_86 : decode cX12_unlike 86 = .ok (.iload_n 3, 1) := by decide +kernel
theorem dX12_unlike_87 : decode cX12_unlike 87 = .ok (.invokevirtual 128, 3) := by decide +kernel
theorem dX12_unlike_90 : decode cX12_unlike 90 = .ok (.iload 4, 2) := by decide +kernel
theorem dX12_unlike_92 : decode cX12_unlike 92 = .ok (.if_icmp .eq 5, 3) := by decide +kernel
theorem dX12_unlike_95 : decode cX12_unlike 95 = .ok (.iload_n 3, 1) := by decide +kernel
theorem dX12_unlike_96 : decode cX12_unlike 96 = .ok (.ireturn, 1) := by decide +kernel
theorem dX12_unlike_97 : decode cX12_unlike 97 = .ok (.iinc 3 1, 3) := by decide +kernel
theorem dX12_unlike_100 : decode cX12_unlike 100 = .ok (.goto (-36), 3) := by decide +kernel
theorem dX12_unlike_103 : decode cX12_unlike 103 = .ok (.iconst (-1), 1) := by decide +kernel
theorem dX12_unlike_104 : decode cX12_unlike 104 = .ok (.ireturn, 1) := by decide +kernel
set_option maxRecDepth 20000 in
theorem ggX12_digit_X12_isIn : GoodIn wsX12_digit wsX12_isIn := goodIn_r _ [5] (by decide +kernel) (by decide +kernel)
set_option maxRecDepth 20000 in
theorem gX12_digit_X12_isIn : GoodIn wsX12_digit (va_wsS RX12 77 yX12_isIn wsX12_isIn) := goodIn_app (goodIn_of _ (by decide +kernel)) ggX12_digit_X12_isIn
theorem dX12_digit_0 : decode cX12_digit 0 = .ok (.aload_n 0, 1) := by decide +kernel
theorem dX12_digit_1 : decode cX12_digit 1 = .ok (.iload_n 2, 1) := by decide +kernel
theorem dX12_digit_2 : decode cX12_digit 2 = .ok (.iconst 0, 1) := by decide +kernel
theorem dX12_digit_3 : decode cX12_digit 3 = .ok (.bipush 15, 2) := by decide +kernel
theorem dX12_digit_5 : decode cX12_digit 5 = .ok (.invokestatic 77, 3) := by decide +kernel
theorem dX12_digit_8 : decode cX12_digit 8 = .ok (.ifCond .ne 7, 3) := by decide +kernel
theorem dX12_digit_11 : decode cX12_digit 11 = .ok (.iconst 1, 1) := by decide +kernel
theorem dX12_digit_12 : decode cX12_digit 12 = .ok (.goto 12, 3) := by decide +kernel
theorem dX12_digit_15 : decode cX12_digit 15 = .ok (.iload_n 1, 1) := by decide +kernel
theorem dX12_digit_16 : decode cX12_digit 16 = .ok (.ifCond .ge 7, 3) := by decide +kernel
theorem dX12_digit_19 : decode cX12_digit 19 = .ok (.iconst 2, 1) := by decide +kernel
theorem dX12_digit_20 : decode cX12_digit 20 = .ok (.goto 4, 3) := by decide +kernel
theorem dX12_digit_23 : decode cX12_digit 23 = .ok (.iconst 0, 1) := by decide +kernel
theorem dX12_digit_24 : decode cX12_digit 24 = .ok (.putfield 73, 3) := by decide +kernel
theorem dX12_digit_27 : decode cX12_digit 27 = .ok (.aload_n 0, 1) := by decide +kernel
theorem dX12_digit_28 : decode cX12_digit 28 = .ok (.getfield 73, 3) := by decide +kernel
theorem dX12_digit_31 : decode cX12_digit 31 = .ok (.ifCond .le 5, 3) := by decide +kernel
theorem dX12_digit_34 : decode cX12_digit 34 = .ok (.iconst 0, 1) := by decide +kernel
theorem dX12_digit_35 : decode cX12_digit 35 = .ok (.ireturn, 1) := by decide +kernel
theorem dX12_digit_36 : decode cX12_digit 36 = .ok (.iload_n 2, 1) := by decide +kernel
theorem dX12_digit_37 : decode cX12_digit 37 = .ok (.ifCond .ne 7, 3) := by decide +kernel
theorem dX12_digit_40 : decode cX12_digit 40 = .ok (.iconst 0, 1) := by decide +kernel
theorem dX12_digit_41 : decode cX12_digit 41 = .ok (.goto 12, 3) := by decide +kernel
theorem dX12_digit_44 : decode cX12_digit 44 = .ok (.iload_n 1, 1) := by decide +kernel
theorem dX12_digit_45 : decode cX12_digit 45 = .ok (.iconst 2, 1) := by decide +kernel
theorem dX12_digit_46 : decode cX12_digit 46 = .ok (.iload_n 2, 1) := by decide +kernel
theorem dX12_digit_47 : decode cX12_digit 47 = .ok (.imul, 1) := by decide +kernel
theorem dX12_digit_48 : decode cX12_digit 48 = .ok (.iconst 1, 1) := by decide +kernel
theorem dX12_digit_49 : decode cX12_digit 49 = .ok (.isub, 1) := by decide +kernel
theorem dX12_digit_50 : decode cX12_digit 50 = .ok (.ishr, 1) := by decide +kernel
theorem dX12_digit_51 : decode cX12_digit 51 = .ok (.iconst 1, 1) := by decide +kernel
theorem dX12_digit_52 : decode cX12_digit 52 = .ok (.iand, 1) := by decide +kernel
theorem dX12_digit_53 : decode cX12_digit 53 = .ok (.istore_n 3, 1) := by decide +kernel
theorem dX12_digit_54 : decode cX12_digit 54 = .ok (.iload_n 1, 1) := by decide +kernel
theorem dX12_digit_55 : decode cX12_digit 55 = .ok (.iconst 2, 1) := by decide +kernel
theorem dX12_digit_56 : decode cX12_digit 56 = .ok (.iload_n 2, 1) := by decide +kernel
theorem dX12_digit_57 : decode cX12_digit 57 = .ok (.imul, 1) := by decide +kernel
theorem dX12_digit_58 : decode cX12_digit 58 = .ok (.ishr, 1) := by decide +kernel
theorem dX12_digit_59 : decode cX12_digit 59 = .ok (.iconst 1, 1) := by decide +kernel
theorem dX12_digit_60 : decode cX12_digit 60 = .ok (.iand, 1) := by decide +kernel
theorem dX12_digit_61 : decode cX12_digit 61 = .ok (.iload_n 3, 1) := by decide +kernel
theorem dX12_digit_62 : decode cX12_digit 62 = .ok (.iadd, 1) := by decide +kernel
theorem dX12_digit_63 : decode cX12_digit 63 = .ok (.iconst 2, 1) := by decide +kernel
theorem dX12_digit_64 : decode cX12_digit 64 = .ok (.iload_n 1, 1) := by decide +kernel
theorem dX12_digit_65 : decode cX12_digit 65 = .ok (.iconst 2, 1) := by decide +kernel
theorem dX12_digit_66 : decode cX12_digit 66 = .ok (.iload_n 2, 1) := by decide +kernel
theorem dX12_digit_67 : decode cX12_digit 67 = .ok (.imul, 1) := by decide +kernel
theorem dX12_digit_68 : decode cX12_digit 68 = .ok (.iconst 1, 1) := by decide +kernel
theorem dX12_digit_69 : decode cX12_digit 69 = .ok (.iadd, 1) := by decide +kernel
theorem dX12_digit_70 : decode cX12_digit 70 = .ok (.ishr, 1) := by decide +kernel
theorem dX12_digit_71 : decode cX12_digit 71 = .ok (.iconst 1, 1) := by decide +kernel
theorem dX12_digit_72 : decode cX12_digit 72 = .ok (.iand, 1) := by decide +kernel
theorem dX12_digit_73 : decode cX12_digit 73 = .ok (.imul, 1) := by decide +kernel
theorem dX12_digit_74 : decode cX12_digit 74 = .ok (.isub, 1) := by decide +kernel
theorem dX12_digit_75 : decode cX12_digit 75 = .ok (.ireturn, 1) := by decide +kernel


set_option maxRecDepth 20000 in
theorem ggX1_init_X9_init : GoodIn wsX1_init wsX9_init := goodIn_r _ [11, 12, 2, 3, 13, 14, 15] (by decide +kernel) (by decide +kernel)
set_option maxRecDepth 20000 in
theorem gX1_init_X9_init : GoodIn wsX1_init (wsX9_init) := ggX1_init_X9_init
theorem dX1_init_0 : decode cX1_init 0 = .ok (.aload_n 0, 1) := by decide +kernel
theorem dX1_init_1 : decode cX1_init 1 = .ok (.invokespecial 3, 3) := by decide +kernel
theorem dX1_init_4 : decode cX1_init 4 = .ok (.aload_n 0, 1) := by decide +kernel
theorem dX1_init_5 : decode cX1_init 5 = .ok (.new 9, 3) := by decide +kernel
theorem dX1_init_8 : decode cX1_init 8 = .ok (.dup, 1) := by decide +kernel
theorem dX1_init_9 : decode cX1_init 9 = .ok (.bipush 120, 2) := by decide +kernel
theorem dX1_init_11 : decode cX1_init 11 = .ok (.invokespecial 11, 3) := by decide +kernel
theorem dX1_init_14 : decode cX1_init 14 = .ok (.putfield 14, 3) := by decide +kernel
theorem dX1_init_17 : decode cX1_init 17 = .ok (.aload_n 0, 1) := by decide +kernel
theorem dX1_init_18 : decode cX1_init 18 = .ok (.new 9, 3) := by decide +kernel
theorem dX1_init_21 : decode cX1_init 21 = .ok (.dup, 1) := by decide +kernel
theorem dX1_init_22 : decode cX1_init 22 = .ok (.bipush 16, 2) := by decide +kernel
theorem dX1_init_24 : decode cX1_init 24 = .ok (.invokespecial 11, 3) := by decide +kernel
theorem dX1_init_27 : decode cX1_init 27 = .ok (.putfield 20, 3) := by decide +kernel
theorem dX1_init_30 : decode cX1_init 30 = .ok (.return_, 1) := by decide +kernel
set_option maxRecDepth 20000 in
theorem ggX1_fillForOne_X1_fill : GoodIn wsX1_fillForOne wsX1_fill := goodIn_r _ [5, 6, 7, 8, 9, 10, 11, 12, 13, 14, 15, 16, 17, 18, 19, 20, 21, 22, 23, 24, 25, 26, 4, 27, 28, 29, 30, 31, 32, 33, 34, 35, 36, 37, 38, 39, 40, 41, 42, 43, 44, 45, 46, 47, 48, 49, 50, 51, 52, 53, 54, 55, 56, 57, 58, 59, 60, 61, 62, 63, 64, 65, 66, 67, 68, 69, 70, 71, 72, 73, 74, 75, 76, 77, 78, 79, 80, 81, 82, 83, 84, 85, 86, 87] (by decide +kernel) (by decide +kernel)
set_option maxRecDepth 20000 in
theorem gX1_fillForOne_X1_fill : GoodIn wsX1_fillForOne (wsV RX1 23 RX1 yX1_fill wsX1_fill) := goodIn_app (goodIn_of _ (by decide +kernel)) ggX1_fillForOne_X1_fill
theorem dX1_fillForOne_0 : decode cX1_fillForOne 0 = .ok (.aload_n 0, 1) := by decide +kernel
theorem dX1_fillForOne_1 : decode cX1_fillForOne 1 = .ok (.aload_n 1, 1) := by decide +kernel
theorem dX1_fillForOne_2 : decode cX1_fillForOne 2 = .ok (.iload_n 2, 1) := by decide +kernel
theorem dX1_fillForOne_3 : decode cX1_fillForOne 3 = .ok (.iconst 0, 1) := by decide +kernel
theorem dX1_fillForOne_4 : decode cX1_fillForOne 4 = .ok (.invokevirtual 23, 3) := by decide +kernel
theorem dX1_fillForOne_7 : decode cX1_fillForOne 7 = .ok (.return_, 1) := by decide +kernel
set_option maxRecDepth 20000 in
theorem ggX1_fillFrom_X1_fill : GoodIn wsX1_fillFrom wsX1_fill := goodIn_r _ [5, 6, 7, 8, 9, 10, 11, 12, 13, 14, 15, 16, 17, 18, 19, 20, 21, 22, 23, 24, 25, 26, 4, 27, 28, 29, 30, 31, 32, 33, 34, 35, 36, 37, 38, 39, 40, 41, 42, 43, 44, 45, 46, 47, 48, 49, 50, 51, 52, 53, 54, 55, 56, 57, 58, 59, 60, 61, 62, 63, 64, 65, 66, 67, 68, 69, 70, 71, 72, 73, 74, 75, 76, 77, 78, 79, 80, 81, 82, 83, 84, 85, 86, 87] (by decide +kernel) (by decide +kernel)
set_option maxRecDepth 20000 in
theorem gX1_fillFrom_X1_fill : GoodIn wsX1_fillFrom (wsV RX1 23 RX1 yX1_fill wsX1_fill) := goodIn_app (goodIn_of _ (by decide +kernel)) ggX1_fillFrom_X1_fill
theorem dX1_fillFrom_0 : decode cX1_fillFrom 0 = .ok (.aload_n 0, 1) := by decide +kernel
theorem dX1_fillFrom_1 : decode cX1_fillFrom 1 = .ok (.aload_n 1, 1) := by decide +kernel
theorem dX1_fillFrom_2 : decode cX1_fillFrom 2 = .ok (.iload_n 2, 1) := by decide +kernel
theorem dX1_fillFrom_3 : decode cX1_fillFrom 3 = .ok (.iconst 1, 1) := by decide +kernel
theorem dX1_fillFrom_4 : decode cX1_fillFrom 4 = .ok (.invokevirtual 23, 3) := by decide +kernel
theorem dX1_fillFrom_7 : decode cX1_fillFrom 7 = .ok (.return_, 1) := by decide +kernel
set_option maxRecDepth 20000 in
theorem ggX1_wordOf_X9_at : GoodIn wsX1_wordOf wsX9_at := goodIn_r _ [6, 7, 10] (by decide +kernel) (by decide +kernel)
set_option maxRecDepth 20000 in
theorem gX1_wordOf_X9_at : GoodIn wsX1_wordOf (wsV RX1 27 RX9 yX9_at wsX9_at) := goodIn_app (goodIn_of _ (by decide +kernel)) ggX1_wordOf_X9_at
theorem dX1_wordOf_0 : decode cX1_wordOf 0 = .ok (.aload_n 0, 1) := by decide +kernel
theorem dX1_wordOf_1 : decode cX1_wordOf 1 = .ok (.getfield 14, 3) := by decide +kernel
theorem dX1_wordOf_4 : decode cX1_wordOf 4 = .ok (.iload_n 1, 1) := by decide +kernel
theorem dX1_wordOf_5 : decode cX1_wordOf 5 = .ok (.invokevirtual 27, 3) := by decide +kernel
theorem dX1_wordOf_8 : decode cX1_wordOf 8 = .ok (.lreturn, 1) := by decide +kernel
set_option maxRecDepth 20000 in
theorem ggX1_bitOf_X9_at : GoodIn wsX1_bitOf wsX9_at := goodIn_r _ [6, 7, 10] (by decide +kernel) (by decide +kernel)
set_option maxRecDepth 20000 in
theorem gX1_bitOf_X9_at : GoodIn wsX1_bitOf (wsV RX1 27 RX9 yX9_at wsX9_at) := goodIn_app (goodIn_of _ (by decide +kernel)) ggX1_bitOf_X9_at
theorem dX1_bitOf_0 : decode cX1_bitOf 0 = .ok (.aload_n 0, 1) := by decide +kernel
theorem dX1_bitOf_1 : decode cX1_bitOf 1 = .ok (.getfield 14, 3) := by decide +kernel
theorem dX1_bitOf_4 : decode cX1_bitOf 4 = .ok (.iload_n 1, 1) := by decide +kernel
theorem dX1_bitOf_5 : decode cX1_bitOf 5 = .ok (.invokevirtual 27, 3) := by decide +kernel
theorem dX1_bitOf_8 : decode cX1_bitOf 8 = .ok (.lconst 1, 1) := by decide +kernel
theorem dX1_bitOf_9 : decode cX1_bitOf 9 = .ok (.land, 1) := by decide +kernel
theorem dX1_bitOf_10 : decode cX1_bitOf 10 = .ok (.l2i, 1) := by decide +kernel
theorem dX1_bitOf_11 : decode cX1_bitOf 11 = .ok (.ireturn, 1) := by decide +kernel
set_option maxRecDepth 20000 in
theorem ggX1_valueInLane_X3_outCount : GoodIn wsX1_valueInLane wsX3_outCount := goodIn_r _ [6, 7, 16, 17, 18, 19, 20, 21, 22, 23] (by decide +kernel) (by decide +kernel)
set_option maxRecDepth 20000 in
theorem gX1_valueInLane_X3_outCount : GoodIn wsX1_valueInLane (wsV RX1 31 RX3 yX3_outCount wsX3_outCount) := goodIn_app (goodIn_of _ (by decide +kernel)) ggX1_valueInLane_X3_outCount
set_option maxRecDepth 20000 in
theorem ggX1_valueInLane_X9_at : GoodIn wsX1_valueInLane wsX9_at := goodIn_r _ [12, 13, 24] (by decide +kernel) (by decide +kernel)
set_option maxRecDepth 20000 in
theorem gX1_valueInLane_X9_at : GoodIn wsX1_valueInLane (wsV RX1 27 RX9 yX9_at wsX9_at) := goodIn_app (goodIn_of _ (by decide +kernel)) ggX1_valueInLane_X9_at
theorem dX1_valueInLane_0 : decode cX1_valueInLane 0 = .ok (.iconst 0, 1) := by decide +kernel
theorem dX1_valueInLane_1 : decode cX1_valueInLane 1 = .ok (.istore_n 3, 1) := by decide +kernel
theorem dX1_valueInLane_2 : decode cX1_valueInLane 2 = .ok (.iconst 0, 1) := by decide +kernel
theorem dX1_valueInLane_3 : decode cX1_valueInLane 3 = .ok (.istore 4, 2) := by decide +kernel
theorem dX1_valueInLane_5 : decode cX1_valueInLane 5 = .ok (.iload 4, 2) := by decide +kernel
theorem dX1_valueInLane_7 : decode cX1_valueInLane 7 = .ok (.aload_n 1, 1) := by decide +kernel
theorem dX1_valueInLane_8 : decode cX1_valueInLane 8 = .ok (.invokevirtual 31, 3) := by decide +kernel
theorem dX1_valueInLane_11 : decode cX1_valueInLane 11 = .ok (.if_icmp .ge 29, 3) := by decide +kernel
theorem dX1_valueInLane_14 : decode cX1_valueInLane 14 = .ok (.iload_n 3, 1) := by decide +kernel
theorem dX1_valueInLane_15 : decode cX1_valueInLane 15 = .ok (.aload_n 0, 1) := by decide +kernel
theorem dX1_valueInLane_16 : decode cX1_valueInLane 16 = .ok (.getfield 20, 3) := by decide +kernel
theorem dX1_valueInLane_19 : decode cX1_valueInLane 19 = .ok (.iload 4, 2) := by decide +kernel
theorem dX1_valueInLane_21 : decode cX1_valueInLane 21 = .ok (.invokevirtual 27, 3) := by decide +kernel
theorem dX1_valueInLane_24 : decode cX1_valueInLane 24 = .ok (.iload_n 2, 1) := by decide +kernel
theorem dX1_valueInLane_25 : decode cX1_valueInLane 25 = .ok (.lushr, 1) := by decide +kernel
theorem dX1_valueInLane_26 : decode cX1_valueInLane 26 = .ok (.lconst 1, 1) := by decide +kernel
theorem dX1_valueInLane_27 : decode cX1_valueInLane 27 = .ok (.land, 1) := by decide +kernel
theorem dX1_valueInLane_28 : decode cX1_valueInLane 28 = .ok (.l2i, 1) := by decide +kernel
theorem dX1_valueInLane_29 : decode cX1_valueInLane 29 = .ok (.iload 4, 2) := by decide +kernel
theorem dX1_valueInLane_31 : decode cX1_valueInLane 31 = .ok (.ishl, 1) := by decide +kernel
theorem dX1_valueInLane_32 : decode cX1_valueInLane 32 = .ok (.iadd, 1) := by decide +kernel
theorem dX1_valueInLane_33 : decode cX1_valueInLane 33 = .ok (.istore_n 3, 1) := by decide +kernel
theorem dX1_valueInLane_34 : decode cX1_valueInLane 34 = .ok (.iinc 4 1, 3) := by decide +kernel
theorem dX1_valueInLane_37 : decode cX1_valueInLane 37 = .ok (.goto (-32), 3) := by decide +kernel
theorem dX1_valueInLane_40 : decode cX1_valueInLane 40 = .ok (.iload_n 3, 1) := by decide +kernel
theorem dX1_valueInLane_41 : decode cX1_valueInLane 41 = .ok (.ireturn, 1) := by decide +kernel
set_option maxRecDepth 20000 in
theorem ggX1_firstUnlike_X9_at : GoodIn wsX1_firstUnlike wsX9_at := goodIn_r _ [6, 7, 10] (by decide +kernel) (by decide +kernel)
set_option maxRecDepth 20000 in
theorem gX1_firstUnlike_X9_at : GoodIn wsX1_firstUnlike (wsV RX1 27 RX9 yX9_at wsX9_at) := goodIn_app (goodIn_of _ (by decide +kernel)) ggX1_firstUnlike_X9_at
theorem dX1_firstUnlike_0 : decode cX1_firstUnlike 0 = .ok (.lconst 0, 1) := by decide +kernel
theorem dX1_firstUnlike_1 : decode cX1_firstUnlike 1 = .ok (.lstore_n 3, 1) := by decide +kernel
theorem dX1_firstUnlike_2 : decode cX1_firstUnlike 2 = .ok (.iconst 0, 1) := by decide +kernel
theorem dX1_firstUnlike_3 : decode cX1_firstUnlike 3 = .ok (.istore 5, 2) := by decide +kernel
theorem dX1_firstUnlike_5 : decode cX1_firstUnlike 5 = .ok (.iload 5, 2) := by decide +kernel
theorem dX1_firstUnlike_7 : decode cX1_firstUnlike 7 = .ok (.bipush 16, 2) := by decide +kernel
theorem dX1_firstUnlike_9 : decode cX1_firstUnlike 9 = .ok (.if_icmp .ge 31, 3) := by decide +kernel
theorem dX1_firstUnlike_12 : decode cX1_firstUnlike 12 = .ok (.lload_n 3, 1) := by decide +kernel
theorem dX1_firstUnlike_13 : decode cX1_firstUnlike 13 = .ok (.aload_n 0, 1) := by decide +kernel
theorem dX1_firstUnlike_14 : decode cX1_firstUnlike 14 = .ok (.getfield 20, 3) := by decide +kernel
theorem dX1_firstUnlike_17 : decode cX1_firstUnlike 17 = .ok (.iload 5, 2) := by decide +kernel
theorem dX1_firstUnlike_19 : decode cX1_firstUnlike 19 = .ok (.invokevirtual 27, 3) := by decide +kernel
theorem dX1_firstUnlike_22 : decode cX1_firstUnlike 22 = .ok (.aload_n 1, 1) := by decide +kernel
theorem dX1_firstUnlike_23 : decode cX1_firstUnlike 23 = .ok (.getfield 20, 3) := by decide +kernel
theorem dX1_firstUnlike_26 : decode cX1_firstUnlike 26 = .ok (.iload 5, 2) := by decide +kernel
theorem dX1_firstUnlike_28 : decode cX1_firstUnlike 28 = .ok (.invokevirtual 27, 3) := by decide +kernel
theorem dX1_firstUnlike_31 : decode cX1_firstUnlike 31 = .ok (.lxor, 1) := by decide +kernel
theorem dX1_firstUnlike_32 : decode cX1_firstUnlike 32 = .ok (.lor, 1) := by decide +kernel
theorem dX1_firstUnlike_33 : decode cX1_firstUnlike 33 = .ok (.lstore_n 3, 1) := by decide +kernel
theorem dX1_firstUnlike_34 : decode cX1_firstUnlike 34 = .ok (.iinc 5 1, 3) := by decide +kernel
theorem dX1_firstUnlike_37 : decode cX1_firstUnlike 37 = .ok (.goto (-32), 3) := by decide +kernel
theorem dX1_firstUnlike_40 : decode cX1_firstUnlike 40 = .ok (.iconst 0, 1) := by decide +kernel
theorem dX1_firstUnlike_41 : decode cX1_firstUnlike 41 = .ok (.istore 5, 2) := by decide +kernel
theorem dX1_firstUnlike_43 : decode cX1_firstUnlike 43 = .ok (.iload 5, 2) := by decide +kernel
theorem dX1_firstUnlike_45 : decode cX1_firstUnlike 45 = .ok (.iload_n 2, 1) := by decide +kernel
theorem dX1_firstUnlike_46 : decode cX1_firstUnlike 46 = .ok (.if_icmp .ge 23, 3) := by decide +kernel
theorem dX1_firstUnlike_49 : decode cX1_firstUnlike 49 = .ok (.lload_n 3, 1) := by decide +kernel
theorem dX1_firstUnlike_50 : decode cX1_firstUnlike 50 = .ok (.iload 5, 2) := by decide +kernel
theorem dX1_firstUnlike_52 : decode cX1_firstUnlike 52 = .ok (.lushr, 1) := by decide +kernel
theorem dX1_firstUnlike_53 : decode cX1_firstUnlike 53 = .ok (.lconst 1, 1) := by decide +kernel
theorem dX1_firstUnlike_54 : decode cX1_firstUnlike 54 = .ok (.land, 1) := by decide +kernel
theorem dX1_firstUnlike_55 : decode cX1_firstUnlike 55 = .ok (.lconst 0, 1) := by decide +kernel
theorem dX1_firstUnlike_56 : decode cX1_firstUnlike 56 = .ok (.lcmp, 1) := by decide +kernel
theorem dX1_firstUnlike_57 : decode cX1_firstUnlike 57 = .ok (.ifCond .eq 6, 3) := by decide +kernel
theorem dX1_firstUnlike_60 : decode cX1_firstUnlike 60 = .ok (.iload 5, 2) := by decide +kernel
theorem dX1_firstUnlike_62 : decode cX1_firstUnlike 62 = .ok (.ireturn, 1) := by decide +kernel
theorem dX1_firstUnlike_63 : decode cX1_firstUnlike 63 = .ok (.iinc 5 1, 3) := by decide +kernel
theorem dX1_firstUnlike_66 : decode cX1_firstUnlike 66 = .ok (.goto (-23), 3) := by decide +kernel
theorem dX1_firstUnlike_69 : decode cX1_firstUnlike 69 = .ok (.iconst (-1), 1) := by decide +kernel
theorem dX1_firstUnlike_70 : decode cX1_firstUnlike 70 = .ok (.ireturn, 1) := by decide +kernel
set_option maxRecDepth 20000 in
theorem ggX1_fill_X3_size : GoodIn wsX1_fill wsX3_size := goodIn_r _ [7, 8, 74, 75, 76, 77, 78, 79, 80, 81] (by decide +kernel) (by decide +kernel)
set_option maxRecDepth 20000 in
theorem gX1_fill_X3_size : GoodIn wsX1_fill (wsV RX1 37 RX3 yX3_size wsX3_size) := goodIn_app (goodIn_of _ (by decide +kernel)) ggX1_fill_X3_size
set_option maxRecDepth 20000 in
theorem ggX1_fill_X3_isInput : GoodIn wsX1_fill wsX3_isInput := goodIn_r _ [12, 13, 14, 15, 16, 17, 18, 19, 74, 75, 76, 77, 78, 79, 80, 81, 82] (by decide +kernel) (by decide +kernel)
set_option maxRecDepth 20000 in
theorem gX1_fill_X3_isInput : GoodIn wsX1_fill (wsV RX1 40 RX3 yX3_isInput wsX3_isInput) := goodIn_app (goodIn_of _ (by decide +kernel)) ggX1_fill_X3_isInput
set_option maxRecDepth 20000 in
theorem ggX1_fill_X1_inputWord : GoodIn wsX1_fill wsX1_inputWord := goodIn_r _ [23, 24, 25, 26, 22, 27, 28] (by decide +kernel) (by decide +kernel)
set_option maxRecDepth 20000 in
theorem gX1_fill_X1_inputWord : GoodIn wsX1_fill (va_wsS RX1 44 yX1_inputWord wsX1_inputWord) := goodIn_app (goodIn_of _ (by decide +kernel)) ggX1_fill_X1_inputWord
set_option maxRecDepth 20000 in
theorem ggX1_fill_X3_kindOf : GoodIn wsX1_fill wsX3_kindOf := goodIn_r _ [32, 13, 14, 15, 16, 17, 18, 19, 74, 75, 76, 77, 78, 79, 80, 81, 82] (by decide +kernel) (by decide +kernel)
set_option maxRecDepth 20000 in
theorem gX1_fill_X3_kindOf : GoodIn wsX1_fill (wsV RX1 48 RX3 yX3_kindOf wsX3_kindOf) := goodIn_app (goodIn_of _ (by decide +kernel)) ggX1_fill_X3_kindOf
set_option maxRecDepth 20000 in
theorem ggX1_fill_X3_firstOf : GoodIn wsX1_fill wsX3_firstOf := goodIn_r _ [36, 37, 14, 15, 16, 17, 18, 19, 74, 75, 76, 77, 78, 79, 80, 81, 82] (by decide +kernel) (by decide +kernel)
set_option maxRecDepth 20000 in
theorem gX1_fill_X3_firstOf : GoodIn wsX1_fill (wsV RX1 52 RX3 yX3_firstOf wsX3_firstOf) := goodIn_app (goodIn_of _ (by decide +kernel)) ggX1_fill_X3_firstOf
set_option maxRecDepth 20000 in
theorem ggX1_fill_X9_at : GoodIn wsX1_fill wsX9_at := goodIn_r _ [42, 43, 83] (by decide +kernel) (by decide +kernel)
set_option maxRecDepth 20000 in
theorem gX1_fill_X9_at : GoodIn wsX1_fill (wsV RX1 27 RX9 yX9_at wsX9_at) := goodIn_app (goodIn_of _ (by decide +kernel)) ggX1_fill_X9_at
set_option maxRecDepth 20000 in
theorem ggX1_fill_X3_secondOf : GoodIn wsX1_fill wsX3_secondOf := goodIn_r _ [47, 48, 14, 15, 16, 17, 18, 19, 74, 75, 76, 77, 78, 79, 80, 81, 82] (by decide +kernel) (by decide +kernel)
set_option maxRecDepth 20000 in
theorem gX1_fill_X3_secondOf : GoodIn wsX1_fill (wsV RX1 55 RX3 yX3_secondOf wsX3_secondOf) := goodIn_app (goodIn_of _ (by decide +kernel)) ggX1_fill_X3_secondOf
set_option maxRecDepth 20000 in
theorem ggX1_fill_X11_join : GoodIn wsX1_fill wsX11_join := goodIn_r _ [51, 52] (by decide +kernel) (by decide +kernel)
set_option maxRecDepth 20000 in
theorem gX1_fill_X11_join_n58 : GoodIn wsX1_fill (wsX11_join) := ggX1_fill_X11_join
set_option maxRecDepth 20000 in
theorem ggX1_fill_X3_stuckBitOf : GoodIn wsX1_fill wsX3_stuckBitOf := goodIn_r _ [56, 57, 14, 15, 16, 17, 18, 19, 74, 75, 76, 77, 78, 79, 80, 81, 82] (by decide +kernel) (by decide +kernel)
set_option maxRecDepth 20000 in
theorem gX1_fill_X3_stuckBitOf : GoodIn wsX1_fill (wsV RX1 62 RX3 yX3_stuckBitOf wsX3_stuckBitOf) := goodIn_app (goodIn_of _ (by decide +kernel)) ggX1_fill_X3_stuckBitOf
set_option maxRecDepth 20000 in
theorem ggX1_fill_X1_everyLane : GoodIn wsX1_fill wsX1_everyLane := goodIn_r _ [27, 28] (by decide +kernel) (by decide +kernel)
set_option maxRecDepth 20000 in
theorem gX1_fill_X1_everyLane : GoodIn wsX1_fill (va_wsS RX1 65 yX1_everyLane wsX1_everyLane) := goodIn_app (goodIn_of _ (by decide +kernel)) ggX1_fill_X1_everyLane
set_option maxRecDepth 20000 in
theorem ggX1_fill_X9_put : GoodIn wsX1_fill wsX9_put := goodIn_r _ [61, 43, 83] (by decide +kernel) (by decide +kernel)
set_option maxRecDepth 20000 in
theorem gX1_fill_X9_put : GoodIn wsX1_fill (wsV RX1 68 RX9 yX9_put wsX9_put) := goodIn_app (goodIn_of _ (by decide +kernel)) ggX1_fill_X9_put
set_option maxRecDepth 20000 in
theorem ggX1_fill_X3_outCount : GoodIn wsX1_fill wsX3_outCount := goodIn_r _ [65, 66, 74, 75, 76, 77, 78, 79, 80, 81] (by decide +kernel) (by decide +kernel)
set_option maxRecDepth 20000 in
theorem gX1_fill_X3_outCount : GoodIn wsX1_fill (wsV RX1 31 RX3 yX3_outCount wsX3_outCount) := goodIn_app (goodIn_of _ (by decide +kernel)) ggX1_fill_X3_outCount
set_option maxRecDepth 20000 in
theorem ggX1_fill_X3_outAt : GoodIn wsX1_fill wsX3_outAt := goodIn_r _ [70, 71, 14, 15, 16, 17, 18, 19, 74, 75, 76, 77, 78, 79, 80, 81, 82] (by decide +kernel) (by decide +kernel)
set_option maxRecDepth 20000 in
theorem gX1_fill_X3_outAt : GoodIn wsX1_fill (wsV RX1 72 RX3 yX3_outAt wsX3_outAt) := goodIn_app (goodIn_of _ (by decide +kernel)) ggX1_fill_X3_outAt
theorem dX1_fill_0 : decode cX1_fill 0 = .ok (.iconst 0, 1) := by decide +kernel
theorem dX1_fill_1 : decode cX1_fill 1 = .ok (.istore 4, 2) := by decide +kernel
theorem dX1_fill_3 : decode cX1_fill 3 = .ok (.iconst 0, 1) := by decide +kernel
theorem dX1_fill_4 : decode cX1_fill 4 = .ok (.istore 5, 2) := by decide +kernel
theorem dX1_fill_6 : decode cX1_fill 6 = .ok (.iload 5, 2) := by decide +kernel
theorem dX1_fill_8 : decode cX1_fill 8 = .ok (.aload_n 1, 1) := by decide +kernel
theorem dX1_fill_9 : decode cX1_fill 9 = .ok (.invokevirtual 37, 3) := by decide +kernel
theorem dX1_fill_12 : decode cX1_fill 12 = .ok (.if_icmp .ge 103, 3) := by decide +kernel
theorem dX1_fill_15 : decode cX1_fill 15 = .ok (.aload_n 1, 1) := by decide +kernel
theorem dX1_fill_16 : decode cX1_fill 16 = .ok (.iload 5, 2) := by decide +kernel
theorem dX1_fill_18 : decode cX1_fill 18 = .ok (.invokevirtual 40, 3) := by decide +kernel
theorem dX1_fill_21 : decode cX1_fill 21 = .ok (.ifCond .eq 18, 3) := by decide +kernel
theorem dX1_fill_24 : decode cX1_fill 24 = .ok (.iload 4, 2) := by decide +kernel
theorem dX1_fill_26 : decode cX1_fill 26 = .ok (.iload_n 2, 1) := by decide +kernel
theorem dX1_fill_27 : decode cX1_fill 27 = .ok (.iload_n 3, 1) := by decide +kernel
theorem dX1_fill_28 : decode cX1_fill 28 = .ok (.invokestatic 44, 3) := by decide +kernel
theorem dX1_fill_31 : decode cX1_fill 31 = .ok (.lstore 6, 2) := by decide +kernel
theorem dX1_fill_33 : decode cX1_fill 33 = .ok (.iinc 4 1, 3) := by decide +kernel
theorem dX1_fill_36 : decode cX1_fill 36 = .ok (.goto 40, 3) := by decide +kernel
theorem dX1_fill_39 : decode cX1_fill 39 = .ok (.aload_n 1, 1) := by decide +kernel
theorem dX1_fill_40 : decode cX1_fill 40 = .ok (.iload 5, 2) := by decide +kernel
theorem dX1_fill_42 : decode cX1_fill 42 = .ok (.invokevirtual 48, 3) := by decide +kernel
theorem dX1_fill_45 : decode cX1_fill 45 = .ok (.aload_n 0, 1) := by decide +kernel
theorem dX1_fill_46 : decode cX1_fill 46 = .ok (.getfield 14, 3) := by decide +kernel
theorem dX1_fill_49 : decode cX1_fill 49 = .ok (.aload_n 1, 1) := by decide +kernel
theorem dX1_fill_50 : decode cX1_fill 50 = .ok (.iload 5, 2) := by decide +kernel
theorem dX1_fill_52 : decode cX1_fill 52 = .ok (.invokevirtual 52, 3) := by decide +kernel
theorem dX1_fill_55 : decode cX1_fill 55 = .ok (.invokevirtual 27, 3) := by decide +kernel
theorem dX1_fill_58 : decode cX1_fill 58 = .ok (.aload_n 0, 1) := by decide +kernel
theorem dX1_fill_59 : decode cX1_fill 59 = .ok (.getfield 14, 3) := by decide +kernel
theorem dX1_fill_62 : decode cX1_fill 62 = .ok (.aload_n 1, 1) := by decide +kernel
theorem dX1_fill_63 : decode cX1_fill 63 = .ok (.iload 5, 2) := by decide +kernel
theorem dX1_fill_65 : decode cX1_fill 65 = .ok (.invokevirtual 55, 3) := by decide +kernel
theorem dX1_fill_68 : decode cX1_fill 68 = .ok (.invokevirtual 27, 3) := by decide +kernel
theorem dX1_fill_71 : decode cX1_fill 71 = .ok (.invokestatic 58, 3) := by decide +kernel
theorem dX1_fill_74 : decode cX1_fill 74 = .ok (.lstore 6, 2) := by decide +kernel
theorem dX1_fill_76 : decode cX1_fill 76 = .ok (.aload_n 1, 1) := by decide +kernel
theorem dX1_fill_77 : decode cX1_fill 77 = .ok (.iload 5, 2) := by decide +kernel
theorem dX1_fill_79 : decode cX1_fill 79 = .ok (.invokevirtual 62, 3) := by decide +kernel
theorem dX1_fill_82 : decode cX1_fill 82 = .ok (.istore 8, 2) := by decide +kernel
theorem dX1_fill_84 : decode cX1_fill 84 = .ok (.aload_n 0, 1) := by decide +kernel
theorem dX1_fill_85 : decode cX1_fill 85 = .ok (.getfield 14, 3) := by decide +kernel
theorem dX1_fill_88 : decode cX1_fill 88 = .ok (.iload 5, 2) := by decide +kernel
theorem dX1_fill_90 : decode cX1_fill 90 = .ok (.iload 8, 2) := by decide +kernel
theorem dX1_fill_92 : decode cX1_fill 92 = .ok (.iconst (-1), 1) := by decide +kernel
theorem dX1_fill_93 : decode cX1_fill 93 = .ok (.if_icmp .ne 8, 3) := by decide +kernel
theorem dX1_fill_96 : decode cX1_fill 96 = .ok (.lload 6, 2) := by decide +kernel
theorem dX1_fill_98 : decode cX1_fill 98 = .ok (.goto 8, 3) := by decide +kernel
theorem dX1_fill_101 : decode cX1_fill 101 = .ok (.iload 8, 2) := by decide +kernel
theorem dX1_fill_103 : decode cX1_fill 103 = .ok (.invokestatic 65, 3) := by decide +kernel
theorem dX1_fill_106 : decode cX1_fill 106 = .ok (.invokevirtual 68, 3) := by decide +kernel
theorem dX1_fill_109 : decode cX1_fill 109 = .ok (.iinc 5 1, 3) := by decide +kernel
theorem dX1_fill_112 : decode cX1_fill 112 = .ok (.goto (-106), 3) := by decide +kernel
theorem dX1_fill_115 : decode cX1_fill 115 = .ok (.iconst 0, 1) := by decide +kernel
theorem dX1_fill_116 : decode cX1_fill 116 = .ok (.istore 5, 2) := by decide +kernel
theorem dX1_fill_118 : decode cX1_fill 118 = .ok (.iload 5, 2) := by decide +kernel
theorem dX1_fill_120 : decode cX1_fill 120 = .ok (.bipush 16, 2) := by decide +kernel
theorem dX1_fill_122 : decode cX1_fill 122 = .ok (.if_icmp .ge 44, 3) := by decide +kernel
theorem dX1_fill_125 : decode cX1_fill 125 = .ok (.aload_n 0, 1) := by decide +kernel
theorem dX1_fill_126 : decode cX1_fill 126 = .ok (.getfield 20, 3) := by decide +kernel
theorem dX1_fill_129 : decode cX1_fill 129 = .ok (.iload 5, 2) := by decide +kernel
theorem dX1_fill_131 : decode cX1_fill 131 = .ok (.iload 5, 2) := by decide +kernel
theorem dX1_fill_133 : decode cX1_fill 133 = .ok (.aload_n 1, 1) := by decide +kernel
theorem dX1_fill_134 : decode cX1_fill 134 = .ok (.invokevirtual 31, 3) := by decide +kernel
theorem dX1_fill_137 : decode cX1_fill 137 = .ok (.if_icmp .ge 19, 3) := by decide +kernel
theorem dX1_fill_140 : decode cX1_fill 140 = .ok (.aload_n 0, 1) := by decide +kernel
theorem dX1_fill_141 : decode cX1_fill 141 = .ok (.getfield 14, 3) := by decide +kernel
theorem dX1_fill_144 : decode cX1_fill 144 = .ok (.aload_n 1, 1) := by decide +kernel
theorem dX1_fill_145 : decode cX1_fill 145 = .ok (.iload 5, 2) := by decide +kernel
theorem dX1_fill_147 : decode cX1_fill 147 = .ok (.invokevirtual 72, 3) := by decide +kernel
theorem dX1_fill_150 : decode cX1_fill 150 = .ok (.invokevirtual 27, 3) := by decide +kernel
theorem dX1_fill_153 : decode cX1_fill 153 = .ok (.goto 4, 3) := by decide +kernel
theorem dX1_fill_156 : decode cX1_fill 156 = .ok (.lconst 0, 1) := by decide +kernel
theorem dX1_fill_157 : decode cX1_fill 157 = .ok (.invokevirtual 68, 3) := by decide +kernel
theorem dX1_fill_160 : decode cX1_fill 160 = .ok (.iinc 5 1, 3) := by decide +kernel
theorem dX1_fill_163 : decode cX1_fill 163 = .ok (.goto (-45), 3) := by decide +kernel
theorem dX1_fill_166 : decode cX1_fill 166 = .ok (.return_, 1) := by decide +kernel
set_option maxRecDepth 20000 in
theorem ggX1_inputWord_X1_everyLane : GoodIn wsX1_inputWord wsX1_everyLane := goodIn_r _ [5, 6] (by decide +kernel) (by decide +kernel)
set_option maxRecDepth 20000 in
theorem gX1_inputWord_X1_everyLane : GoodIn wsX1_inputWord (va_wsS RX1 65 yX1_everyLane wsX1_everyLane) := goodIn_app (goodIn_of _ (by decide +kernel)) ggX1_inputWord_X1_everyLane
theorem dX1_inputWord_0 : decode cX1_inputWord 0 = .ok (.iload_n 2, 1) := by decide +kernel
theorem dX1_inputWord_1 : decode cX1_inputWord 1 = .ok (.ifCond .eq 21, 3) := by decide +kernel
theorem dX1_inputWord_4 : decode cX1_inputWord 4 = .ok (.iload_n 0, 1) := by decide +kernel
theorem dX1_inputWord_5 : decode cX1_inputWord 5 = .ok (.ifCond .lt 17, 3) := by decide +kernel
theorem dX1_inputWord_8 : decode cX1_inputWord 8 = .ok (.iload_n 0, 1) := by decide +kernel
theorem dX1_inputWord_9 : decode cX1_inputWord 9 = .ok (.getstatic 75, 3) := by decide +kernel
theorem dX1_inputWord_12 : decode cX1_inputWord 12 = .ok (.arraylength, 1) := by decide +kernel
theorem dX1_inputWord_13 : decode cX1_inputWord 13 = .ok (.if_icmp .ge 9, 3) := by decide +kernel
theorem dX1_inputWord_16 : decode cX1_inputWord 16 = .ok (.getstatic 75, 3) := by decide +kernel
theorem dX1_inputWord_19 : decode cX1_inputWord 19 = .ok (.iload_n 0, 1) := by decide +kernel
theorem dX1_inputWord_20 : decode cX1_inputWord 20 = .ok (.laload, 1) := by decide +kernel
theorem dX1_inputWord_21 : decode cX1_inputWord 21 = .ok (.lreturn, 1) := by decide +kernel
theorem dX1_inputWord_22 : decode cX1_inputWord 22 = .ok (.iload_n 1, 1) := by decide +kernel
theorem dX1_inputWord_23 : decode cX1_inputWord 23 = .ok (.iload_n 0, 1) := by decide +kernel
theorem dX1_inputWord_24 : decode cX1_inputWord 24 = .ok (.ishr, 1) := by decide +kernel
theorem dX1_inputWord_25 : decode cX1_inputWord 25 = .ok (.iconst 1, 1) := by decide +kernel
theorem dX1_inputWord_26 : decode cX1_inputWord 26 = .ok (.iand, 1) := by decide +kernel
theorem dX1_inputWord_27 : decode cX1_inputWord 27 = .ok (.invokestatic 65, 3) := by decide +kernel
theorem dX1_inputWord_30 : decode cX1_inputWord 30 = .ok (.lreturn, 1) := by decide +kernel
theorem dX1_everyLane_0 : decode cX1_everyLane 0 = .ok (.iload_n 0, 1) := by decide +kernel
theorem dX1_everyLane_1 : decode cX1_everyLane 1 = .ok (.ifCond .ne 7, 3) := by decide +kernel
theorem dX1_everyLane_4 : decode cX1_everyLane 4 = .ok (.lconst 0, 1) := by decide +kernel
theorem dX1_everyLane_5 : decode cX1_everyLane 5 = .ok (.goto 6, 3) := by decide +kernel
theorem dX1_everyLane_8 : decode cX1_everyLane 8 = .ok (.ldc2_w 79, 3) := by decide +kernel
theorem dX1_everyLane_11 : decode cX1_everyLane 11 = .ok (.lreturn, 1) := by decide +kernel
theorem dX11_join_0 : decode cX11_join 0 = .ok (.iload_n 0, 1) := by decide +kernel
theorem dX11_join_1 : decode cX11_join 1 = .ok (.tableswitch 39 0 2 #[27, 31, 35], 27) := by decide +kernel
theorem dX11_join_28 : decode cX11_join 28 = .ok (.lload_n 1, 1) := by decide +kernel
theorem dX11_join_29 : decode cX11_join 29 = .ok (.lload_n 3, 1) := by decide +kernel
theorem dX11_join_30 : decode cX11_join 30 = .ok (.land, 1) := by decide +kernel
theorem dX11_join_31 : decode cX11_join 31 = .ok (.lreturn, 1) := by decide +kernel
theorem dX11_join_32 : decode cX11_join 32 = .ok (.lload_n 1, 1) := by decide +kernel
theorem dX11_join_33 : decode cX11_join 33 = .ok (.lload_n 3, 1) := by decide +kernel
theorem dX11_join_34 : decode cX11_join 34 = .ok (.lor, 1) := by decide +kernel
theorem dX11_join_35 : decode cX11_join 35 = .ok (.lreturn, 1) := by decide +kernel
theorem dX11_join_36 : decode cX11_join 36 = .ok (.lload_n 1, 1) := by decide +kernel
theorem dX11_join_37 : decode cX11_join 37 = .ok (.lload_n 3, 1) := by decide +kernel
theorem dX11_join_38 : decode cX11_join 38 = .ok (.lxor, 1) := by decide +kernel
theorem dX11_join_39 : decode cX11_join 39 = .ok (.lreturn, 1) := by decide +kernel
theorem dX11_join_40 : decode cX11_join 40 = .ok (.lload_n 1, 1) := by decide +kernel
theorem dX11_join_41 : decode cX11_join 41 = .ok (.ldc2_w 300, 3) := by decide +kernel
theorem dX11_join_44 : decode cX11_join 44 = .ok (.lxor, 1) := by decide +kernel
theorem dX11_join_45 : decode cX11_join 45 = .ok (.lreturn, 1) := by decide +kernel

set_option maxRecDepth 20000 in
theorem ggX8_init_X9_init : GoodIn wsX8_init wsX9_init := goodIn_r _ [10, 11, 2, 3, 12, 13, 14] (by decide +kernel) (by decide +kernel)
set_option maxRecDepth 20000 in
theorem gX8_init_X9_init : GoodIn wsX8_init (wsX9_init) := ggX8_init_X9_init
theorem dX8_init_0 : decode cX8_init 0 = .ok (.aload_n 0, 1) := by decide +kernel
theorem dX8_init_1 : decode cX8_init 1 = .ok (.invokespecial 3, 3) := by decide +kernel
theorem dX8_init_4 : decode cX8_init 4 = .ok (.aload_n 0, 1) := by decide +kernel
theorem dX8_init_5 : decode cX8_init 5 = .ok (.new 9, 3) := by decide +kernel
theorem dX8_init_8 : decode cX8_init 8 = .ok (.dup, 1) := by decide +kernel
theorem dX8_init_9 : decode cX8_init 9 = .ok (.sipush 2040, 3) := by decide +kernel
theorem dX8_init_12 : decode cX8_init 12 = .ok (.invokespecial 13, 3) := by decide +kernel
theorem dX8_init_15 : decode cX8_init 15 = .ok (.putfield 16, 3) := by decide +kernel
theorem dX8_init_18 : decode cX8_init 18 = .ok (.return_, 1) := by decide +kernel
set_option maxRecDepth 20000 in
theorem ggX8_run_X3_size : GoodIn wsX8_run wsX3_size := goodIn_r _ [10, 11, 76, 77, 78, 79, 80, 81, 82, 83] (by decide +kernel) (by decide +kernel)
set_option maxRecDepth 20000 in
theorem gX8_run_X3_size : GoodIn wsX8_run (wsV RX8 30 RX3 yX3_size wsX3_size) := goodIn_app (goodIn_of _ (by decide +kernel)) ggX8_run_X3_size
set_option maxRecDepth 20000 in
theorem ggX8_run_X3_isInput : GoodIn wsX8_run wsX3_isInput := goodIn_r _ [15, 16, 17, 18, 19, 20, 21, 22, 76, 77, 78, 79, 80, 81, 82, 83, 84] (by decide +kernel) (by decide +kernel)
set_option maxRecDepth 20000 in
theorem gX8_run_X3_isInput : GoodIn wsX8_run (wsV RX8 36 RX3 yX3_isInput wsX3_isInput) := goodIn_app (goodIn_of _ (by decide +kernel)) ggX8_run_X3_isInput
set_option maxRecDepth 20000 in
theorem ggX8_run_X3_stuckBitOf : GoodIn wsX8_run wsX3_stuckBitOf := goodIn_r _ [26, 27, 17, 18, 19, 20, 21, 22, 76, 77, 78, 79, 80, 81, 82, 83, 84] (by decide +kernel) (by decide +kernel)
set_option maxRecDepth 20000 in
theorem gX8_run_X3_stuckBitOf : GoodIn wsX8_run (wsV RX8 40 RX3 yX3_stuckBitOf wsX3_stuckBitOf) := goodIn_app (goodIn_of _ (by decide +kernel)) ggX8_run_X3_stuckBitOf
set_option maxRecDepth 20000 in
theorem ggX8_run_X1_wordOf : GoodIn wsX8_run wsX1_wordOf := goodIn_r _ [32, 33, 34, 35, 36, 37, 38, 39, 85, 86, 87] (by decide +kernel) (by decide +kernel)
set_option maxRecDepth 20000 in
theorem gX8_run_X1_wordOf : GoodIn wsX8_run (wsV RX8 44 RX1 yX1_wordOf wsX1_wordOf) := goodIn_app (goodIn_of _ (by decide +kernel)) ggX8_run_X1_wordOf
set_option maxRecDepth 20000 in
theorem ggX8_run_X8_hold : GoodIn wsX8_run wsX8_hold := goodIn_r _ [44, 5, 45, 46, 47, 48, 37, 49, 39, 74, 75, 87] (by decide +kernel) (by decide +kernel)
set_option maxRecDepth 20000 in
theorem gX8_run_X8_hold : GoodIn wsX8_run (wsV RX8 50 RX8 yX8_hold wsX8_hold) := goodIn_app (goodIn_of _ (by decide +kernel)) ggX8_run_X8_hold
set_option maxRecDepth 20000 in
theorem ggX8_run_X3_kindOf : GoodIn wsX8_run wsX3_kindOf := goodIn_r _ [53, 16, 17, 18, 19, 20, 21, 22, 76, 77, 78, 79, 80, 81, 82, 83, 84] (by decide +kernel) (by decide +kernel)
set_option maxRecDepth 20000 in
theorem gX8_run_X3_kindOf : GoodIn wsX8_run (wsV RX8 54 RX3 yX3_kindOf wsX3_kindOf) := goodIn_app (goodIn_of _ (by decide +kernel)) ggX8_run_X3_kindOf
set_option maxRecDepth 20000 in
theorem ggX8_run_X4_at : GoodIn wsX8_run wsX4_at := goodIn_r _ [21, 22, 84] (by decide +kernel) (by decide +kernel)
set_option maxRecDepth 20000 in
theorem gX8_run_X4_at : GoodIn wsX8_run (wsV RX8 57 RX4 yX4_at wsX4_at) := goodIn_app (goodIn_of _ (by decide +kernel)) ggX8_run_X4_at
set_option maxRecDepth 20000 in
theorem ggX8_run_X8_delay : GoodIn wsX8_run wsX8_delay := goodIn_r _ [58, 5, 45, 59, 60, 61, 9, 62, 63, 17, 18, 19, 20, 21, 22, 64, 65, 66, 67, 68, 50, 51, 52, 53, 16, 69, 35, 36, 37, 38, 39, 70, 71, 72, 73, 46, 47, 48, 49, 74, 75, 76, 77, 78, 79, 80, 81, 82, 83, 84, 87] (by decide +kernel) (by decide +kernel)
set_option maxRecDepth 20000 in
theorem gX8_run_X8_delay : GoodIn wsX8_run (wsV RX8 62 RX8 yX8_delay wsX8_delay) := goodIn_app (goodIn_of _ (by decide +kernel)) ggX8_run_X8_delay
theorem dX8_run_0 : decode cX8_run 0 = .ok (.aload_n 0, 1) := by decide +kernel
theorem dX8_run_1 : decode cX8_run 1 = .ok (.bipush 17, 2) := by decide +kernel
theorem dX8_run_3 : decode cX8_run 3 = .ok (.iload 5, 2) := by decide +kernel
theorem dX8_run_5 : decode cX8_run 5 = .ok (.bipush 6, 2) := by decide +kernel
theorem dX8_run_7 : decode cX8_run 7 = .ok (.ishr, 1) := by decide +kernel
theorem dX8_run_8 : decode cX8_run 8 = .ok (.iconst 1, 1) := by decide +kernel
theorem dX8_run_9 : decode cX8_run 9 = .ok (.iadd, 1) := by decide +kernel
theorem dX8_run_10 : decode cX8_run 10 = .ok (.invokestatic 20, 3) := by decide +kernel
theorem dX8_run_13 : decode cX8_run 13 = .ok (.putfield 26, 3) := by decide +kernel
theorem dX8_run_16 : decode cX8_run 16 = .ok (.iconst 0, 1) := by decide +kernel
theorem dX8_run_17 : decode cX8_run 17 = .ok (.istore 6, 2) := by decide +kernel
theorem dX8_run_19 : decode cX8_run 19 = .ok (.iload 6, 2) := by decide +kernel
theorem dX8_run_21 : decode cX8_run 21 = .ok (.aload_n 1, 1) := by decide +kernel
theorem dX8_run_22 : decode cX8_run 22 = .ok (.invokevirtual 30, 3) := by decide +kernel
theorem dX8_run_25 : decode cX8_run 25 = .ok (.if_icmp .ge 67, 3) := by decide +kernel
theorem dX8_run_28 : decode cX8_run 28 = .ok (.aload_n 1, 1) := by decide +kernel
theorem dX8_run_29 : decode cX8_run 29 = .ok (.iload 6, 2) := by decide +kernel
theorem dX8_run_31 : decode cX8_run 31 = .ok (.invokevirtual 36, 3) := by decide +kernel
theorem dX8_run_34 : decode cX8_run 34 = .ok (.ifCond .ne 13, 3) := by decide +kernel
theorem dX8_run_37 : decode cX8_run 37 = .ok (.aload_n 1, 1) := by decide +kernel
theorem dX8_run_38 : decode cX8_run 38 = .ok (.iload 6, 2) := by decide +kernel
theorem dX8_run_40 : decode cX8_run 40 = .ok (.invokevirtual 40, 3) := by decide +kernel
theorem dX8_run_43 : decode cX8_run 43 = .ok (.iconst (-1), 1) := by decide +kernel
theorem dX8_run_44 : decode cX8_run 44 = .ok (.if_icmp .eq 19, 3) := by decide +kernel
theorem dX8_run_47 : decode cX8_run 47 = .ok (.aload_n 0, 1) := by decide +kernel
theorem dX8_run_48 : decode cX8_run 48 = .ok (.iload 6, 2) := by decide +kernel
theorem dX8_run_50 : decode cX8_run 50 = .ok (.aload 4, 2) := by decide +kernel
theorem dX8_run_52 : decode cX8_run 52 = .ok (.iload 6, 2) := by decide +kernel
theorem dX8_run_54 : decode cX8_run 54 = .ok (.invokevirtual 44, 3) := by decide +kernel
theorem dX8_run_57 : decode cX8_run 57 = .ok (.invokevirtual 50, 3) := by decide +kernel
theorem dX8_run_60 : decode cX8_run 60 = .ok (.goto 26, 3) := by decide +kernel
theorem dX8_run_63 : decode cX8_run 63 = .ok (.aload_n 0, 1) := by decide +kernel
theorem dX8_run_64 : decode cX8_run 64 = .ok (.aload_n 1, 1) := by decide +kernel
theorem dX8_run_65 : decode cX8_run 65 = .ok (.iload 6, 2) := by decide +kernel
theorem dX8_run_67 : decode cX8_run 67 = .ok (.aload_n 2, 1) := by decide +kernel
theorem dX8_run_68 : decode cX8_run 68 = .ok (.aload_n 1, 1) := by decide +kernel
theorem dX8_run_69 : decode cX8_run 69 = .ok (.iload 6, 2) := by decide +kernel
theorem dX8_run_71 : decode cX8_run 71 = .ok (.invokevirtual 54, 3) := by decide +kernel
theorem dX8_run_74 : decode cX8_run 74 = .ok (.invokevirtual 57, 3) := by decide +kernel
theorem dX8_run_77 : decode cX8_run 77 = .ok (.aload_n 3, 1) := by decide +kernel
theorem dX8_run_78 : decode cX8_run 78 = .ok (.iload 6, 2) := by decide +kernel
theorem dX8_run_80 : decode cX8_run 80 = .ok (.invokevirtual 44, 3) := by decide +kernel
theorem dX8_run_83 : decode cX8_run 83 = .ok (.invokevirtual 62, 3) := by decide +kernel
theorem dX8_run_86 : decode cX8_run 86 = .ok (.iinc 6 1, 3) := by decide +kernel
theorem dX8_run_89 : decode cX8_run 89 = .ok (.goto (-70), 3) := by decide +kernel
theorem dX8_run_92 : decode cX8_run 92 = .ok (.return_, 1) := by decide +kernel
set_option maxRecDepth 20000 in
theorem ggX8_count_X3_size : GoodIn wsX8_count wsX3_size := goodIn_r _ [5, 6, 66, 67, 68, 69, 70, 71, 72, 73] (by decide +kernel) (by decide +kernel)
set_option maxRecDepth 20000 in
theorem gX8_count_X3_size : GoodIn wsX8_count (wsV RX8 30 RX3 yX3_size wsX3_size) := goodIn_app (goodIn_of _ (by decide +kernel)) ggX8_count_X3_size
set_option maxRecDepth 20000 in
theorem ggX8_count_X3_isInput : GoodIn wsX8_count wsX3_isInput := goodIn_r _ [10, 11, 12, 13, 14, 15, 16, 17, 66, 67, 68, 69, 70, 71, 72, 73, 74] (by decide +kernel) (by decide +kernel)
set_option maxRecDepth 20000 in
theorem gX8_count_X3_isInput : GoodIn wsX8_count (wsV RX8 36 RX3 yX3_isInput wsX3_isInput) := goodIn_app (goodIn_of _ (by decide +kernel)) ggX8_count_X3_isInput
set_option maxRecDepth 20000 in
theorem ggX8_count_X1_wordOf : GoodIn wsX8_count wsX1_wordOf := goodIn_r _ [22, 23, 24, 25, 26, 27, 28, 29, 75, 76, 77] (by decide +kernel) (by decide +kernel)
set_option maxRecDepth 20000 in
theorem gX8_count_X1_wordOf : GoodIn wsX8_count (wsV RX8 44 RX1 yX1_wordOf wsX1_wordOf) := goodIn_app (goodIn_of _ (by decide +kernel)) ggX8_count_X1_wordOf
set_option maxRecDepth 20000 in
theorem ggX8_count_X3_isOut : GoodIn wsX8_count wsX3_isOut := goodIn_r _ [33, 34, 35, 12, 13, 14, 15, 16, 17, 66, 67, 68, 69, 70, 71, 72, 73, 74] (by decide +kernel) (by decide +kernel)
set_option maxRecDepth 20000 in
theorem gX8_count_X3_isOut : GoodIn wsX8_count (wsV RX8 66 RX3 yX3_isOut wsX3_isOut) := goodIn_app (goodIn_of _ (by decide +kernel)) ggX8_count_X3_isOut
set_option maxRecDepth 20000 in
theorem ggX8_count_X8_countGate : GoodIn wsX8_count wsX8_countGate := goodIn_r _ [40, 41, 42, 43, 25, 26, 27, 28, 29, 44, 45, 46, 47, 48, 49, 50, 51, 52, 39, 53, 54, 55, 56, 57, 58, 59, 60, 61, 62, 63, 64, 65, 78, 79, 77, 80, 81, 82] (by decide +kernel) (by decide +kernel)
set_option maxRecDepth 20000 in
theorem gX8_count_X8_countGate : GoodIn wsX8_count (wsV RX8 69 RX8 yX8_countGate wsX8_countGate) := goodIn_app (goodIn_of _ (by decide +kernel)) ggX8_count_X8_countGate
theorem dX8_count_0 : decode cX8_count 0 = .ok (.iconst 0, 1) := by decide +kernel
theorem dX8_count_1 : decode cX8_count 1 = .ok (.istore 4, 2) := by decide +kernel
theorem dX8_count_3 : decode cX8_count 3 = .ok (.iload 4, 2) := by decide +kernel
theorem dX8_count_5 : decode cX8_count 5 = .ok (.aload_n 1, 1) := by decide +kernel
theorem dX8_count_6 : decode cX8_count 6 = .ok (.invokevirtual 30, 3) := by decide +kernel
theorem dX8_count_9 : decode cX8_count 9 = .ok (.if_icmp .ge 37, 3) := by decide +kernel
theorem dX8_count_12 : decode cX8_count 12 = .ok (.aload_n 1, 1) := by decide +kernel
theorem dX8_count_13 : decode cX8_count 13 = .ok (.iload 4, 2) := by decide +kernel
theorem dX8_count_15 : decode cX8_count 15 = .ok (.invokevirtual 36, 3) := by decide +kernel
theorem dX8_count_18 : decode cX8_count 18 = .ok (.ifCond .ne 22, 3) := by decide +kernel
theorem dX8_count_21 : decode cX8_count 21 = .ok (.aload_n 0, 1) := by decide +kernel
theorem dX8_count_22 : decode cX8_count 22 = .ok (.iload 4, 2) := by decide +kernel
theorem dX8_count_24 : decode cX8_count 24 = .ok (.aload_n 2, 1) := by decide +kernel
theorem dX8_count_25 : decode cX8_count 25 = .ok (.iload 4, 2) := by decide +kernel
theorem dX8_count_27 : decode cX8_count 27 = .ok (.invokevirtual 44, 3) := by decide +kernel
theorem dX8_count_30 : decode cX8_count 30 = .ok (.aload_n 1, 1) := by decide +kernel
theorem dX8_count_31 : decode cX8_count 31 = .ok (.iload 4, 2) := by decide +kernel
theorem dX8_count_33 : decode cX8_count 33 = .ok (.invokevirtual 66, 3) := by decide +kernel
theorem dX8_count_36 : decode cX8_count 36 = .ok (.aload_n 3, 1) := by decide +kernel
theorem dX8_count_37 : decode cX8_count 37 = .ok (.invokevirtual 69, 3) := by decide +kernel
theorem dX8_count_40 : decode cX8_count 40 = .ok (.iinc 4 1, 3) := by decide +kernel
theorem dX8_count_43 : decode cX8_count 43 = .ok (.goto (-40), 3) := by decide +kernel
theorem dX8_count_46 : decode cX8_count 46 = .ok (.return_, 1) := by decide +kernel
set_option maxRecDepth 20000 in
theorem ggX8_hold_X9_put : GoodIn wsX8_hold wsX9_put := goodIn_r _ [7, 8, 11] (by decide +kernel) (by decide +kernel)
set_option maxRecDepth 20000 in
theorem gX8_hold_X9_put : GoodIn wsX8_hold (wsV RX8 73 RX9 yX9_put wsX9_put) := goodIn_app (goodIn_of _ (by decide +kernel)) ggX8_hold_X9_put
theorem dX8_hold_0 : decode cX8_hold 0 = .ok (.iconst 0, 1) := by decide +kernel
theorem dX8_hold_1 : decode cX8_hold 1 = .ok (.istore 4, 2) := by decide +kernel
theorem dX8_hold_3 : decode cX8_hold 3 = .ok (.iload 4, 2) := by decide +kernel
theorem dX8_hold_5 : decode cX8_hold 5 = .ok (.aload_n 0, 1) := by decide +kernel
theorem dX8_hold_6 : decode cX8_hold 6 = .ok (.getfield 26, 3) := by decide +kernel
theorem dX8_hold_9 : decode cX8_hold 9 = .ok (.if_icmp .ge 24, 3) := by decide +kernel
theorem dX8_hold_12 : decode cX8_hold 12 = .ok (.aload_n 0, 1) := by decide +kernel
theorem dX8_hold_13 : decode cX8_hold 13 = .ok (.getfield 16, 3) := by decide +kernel
theorem dX8_hold_16 : decode cX8_hold 16 = .ok (.iload_n 1, 1) := by decide +kernel
theorem dX8_hold_17 : decode cX8_hold 17 = .ok (.bipush 17, 2) := by decide +kernel
theorem dX8_hold_19 : decode cX8_hold 19 = .ok (.imul, 1) := by decide +kernel
theorem dX8_hold_20 : decode cX8_hold 20 = .ok (.iload 4, 2) := by decide +kernel
theorem dX8_hold_22 : decode cX8_hold 22 = .ok (.iadd, 1) := by decide +kernel
theorem dX8_hold_23 : decode cX8_hold 23 = .ok (.lload_n 2, 1) := by decide +kernel
theorem dX8_hold_24 : decode cX8_hold 24 = .ok (.invokevirtual 73, 3) := by decide +kernel
theorem dX8_hold_27 : decode cX8_hold 27 = .ok (.iinc 4 1, 3) := by decide +kernel
theorem dX8_hold_30 : decode cX8_hold 30 = .ok (.goto (-27), 3) := by decide +kernel
theorem dX8_hold_33 : decode cX8_hold 33 = .ok (.return_, 1) := by decide +kernel
set_option maxRecDepth 20000 in
theorem ggX8_delay_X3_firstOf : GoodIn wsX8_delay wsX3_firstOf := goodIn_r _ [7, 8, 9, 10, 11, 12, 13, 14, 41, 42, 43, 44, 45, 46, 47, 48, 49] (by decide +kernel) (by decide +kernel)
set_option maxRecDepth 20000 in
theorem gX8_delay_X3_firstOf : GoodIn wsX8_delay (wsV RX8 76 RX3 yX3_firstOf wsX3_firstOf) := goodIn_app (goodIn_of _ (by decide +kernel)) ggX8_delay_X3_firstOf
set_option maxRecDepth 20000 in
theorem ggX8_delay_X3_secondOf : GoodIn wsX8_delay wsX3_secondOf := goodIn_r _ [18, 19, 9, 10, 11, 12, 13, 14, 41, 42, 43, 44, 45, 46, 47, 48, 49] (by decide +kernel) (by decide +kernel)
set_option maxRecDepth 20000 in
theorem gX8_delay_X3_secondOf : GoodIn wsX8_delay (wsV RX8 79 RX3 yX3_secondOf wsX3_secondOf) := goodIn_app (goodIn_of _ (by decide +kernel)) ggX8_delay_X3_secondOf
set_option maxRecDepth 20000 in
theorem ggX8_delay_X3_kindOf : GoodIn wsX8_delay wsX3_kindOf := goodIn_r _ [23, 24, 9, 10, 11, 12, 13, 14, 41, 42, 43, 44, 45, 46, 47, 48, 49] (by decide +kernel) (by decide +kernel)
set_option maxRecDepth 20000 in
theorem gX8_delay_X3_kindOf : GoodIn wsX8_delay (wsV RX8 54 RX3 yX3_kindOf wsX3_kindOf) := goodIn_app (goodIn_of _ (by decide +kernel)) ggX8_delay_X3_kindOf
set_option maxRecDepth 20000 in
theorem ggX8_delay_X9_at : GoodIn wsX8_delay wsX9_at := goodIn_r _ [29, 30, 50] (by decide +kernel) (by decide +kernel)
set_option maxRecDepth 20000 in
theorem gX8_delay_X9_at : GoodIn wsX8_delay (wsV RX8 82 RX9 yX9_at wsX9_at) := goodIn_app (goodIn_of _ (by decide +kernel)) ggX8_delay_X9_at
set_option maxRecDepth 20000 in
theorem ggX8_delay_X11_join : GoodIn wsX8_delay wsX11_join := goodIn_r _ [33, 34] (by decide +kernel) (by decide +kernel)
set_option maxRecDepth 20000 in
theorem gX8_delay_X11_join_n84 : GoodIn wsX8_delay (wsX11_join) := ggX8_delay_X11_join
set_option maxRecDepth 20000 in
theorem ggX8_delay_X9_put : GoodIn wsX8_delay wsX9_put := goodIn_r _ [38, 30, 50] (by decide +kernel) (by decide +kernel)
set_option maxRecDepth 20000 in
theorem gX8_delay_X9_put : GoodIn wsX8_delay (wsV RX8 73 RX9 yX9_put wsX9_put) := goodIn_app (goodIn_of _ (by decide +kernel)) ggX8_delay_X9_put
theorem dX8_delay_0 : decode cX8_delay 0 = .ok (.aload_n 1, 1) := by decide +kernel
theorem dX8_delay_1 : decode cX8_delay 1 = .ok (.iload_n 2, 1) := by decide +kernel
theorem dX8_delay_2 : decode cX8_delay 2 = .ok (.invokevirtual 76, 3) := by decide +kernel
theorem dX8_delay_5 : decode cX8_delay 5 = .ok (.bipush 17, 2) := by decide +kernel
theorem dX8_delay_7 : decode cX8_delay 7 = .ok (.imul, 1) := by decide +kernel
theorem dX8_delay_8 : decode cX8_delay 8 = .ok (.istore 6, 2) := by decide +kernel
theorem dX8_delay_10 : decode cX8_delay 10 = .ok (.aload_n 1, 1) := by decide +kernel
theorem dX8_delay_11 : decode cX8_delay 11 = .ok (.iload_n 2, 1) := by decide +kernel
theorem dX8_delay_12 : decode cX8_delay 12 = .ok (.invokevirtual 79, 3) := by decide +kernel
theorem dX8_delay_15 : decode cX8_delay 15 = .ok (.bipush 17, 2) := by decide +kernel
theorem dX8_delay_17 : decode cX8_delay 17 = .ok (.imul, 1) := by decide +kernel
theorem dX8_delay_18 : decode cX8_delay 18 = .ok (.istore 7, 2) := by decide +kernel
theorem dX8_delay_20 : decode cX8_delay 20 = .ok (.lload 4, 2) := by decide +kernel
theorem dX8_delay_22 : decode cX8_delay 22 = .ok (.lstore 8, 2) := by decide +kernel
theorem dX8_delay_24 : decode cX8_delay 24 = .ok (.iconst 0, 1) := by decide +kernel
theorem dX8_delay_25 : decode cX8_delay 25 = .ok (.istore 10, 2) := by decide +kernel
theorem dX8_delay_27 : decode cX8_delay 27 = .ok (.iload 10, 2) := by decide +kernel
theorem dX8_delay_29 : decode cX8_delay 29 = .ok (.aload_n 0, 1) := by decide +kernel
theorem dX8_delay_30 : decode cX8_delay 30 = .ok (.getfield 26, 3) := by decide +kernel
theorem dX8_delay_33 : decode cX8_delay 33 = .ok (.if_icmp .ge 73, 3) := by decide +kernel
theorem dX8_delay_36 : decode cX8_delay 36 = .ok (.aload_n 1, 1) := by decide +kernel
theorem dX8_delay_37 : decode cX8_delay 37 = .ok (.iload_n 2, 1) := by decide +kernel
theorem dX8_delay_38 : decode cX8_delay 38 = .ok (.invokevirtual 54, 3) := by decide +kernel
theorem dX8_delay_41 : decode cX8_delay 41 = .ok (.aload_n 0, 1) := by decide +kernel
theorem dX8_delay_42 : decode cX8_delay 42 = .ok (.getfield 16, 3) := by decide +kernel
theorem dX8_delay_45 : decode cX8_delay 45 = .ok (.iload 6, 2) := by decide +kernel
theorem dX8_delay_47 : decode cX8_delay 47 = .ok (.iload 10, 2) := by decide +kernel
theorem dX8_delay_49 : decode cX8_delay 49 = .ok (.iadd, 1) := by decide +kernel
theorem dX8_delay_50 : decode cX8_delay 50 = .ok (.invokevirtual 82, 3) := by decide +kernel
theorem dX8_delay_53 : decode cX8_delay 53 = .ok (.aload_n 0, 1) := by decide +kernel
theorem dX8_delay_54 : decode cX8_delay 54 = .ok (.getfield 16, 3) := by decide +kernel
theorem dX8_delay_57 : decode cX8_delay 57 = .ok (.iload 7, 2) := by decide +kernel
theorem dX8_delay_59 : decode cX8_delay 59 = .ok (.iload 10, 2) := by decide +kernel
theorem dX8_delay_61 : decode cX8_delay 61 = .ok (.iadd, 1) := by decide +kernel
theorem dX8_delay_62 : decode cX8_delay 62 = .ok (.invokevirtual 82, 3) := by decide +kernel
theorem dX8_delay_65 : decode cX8_delay 65 = .ok (.invokestatic 84, 3) := by decide +kernel
theorem dX8_delay_68 : decode cX8_delay 68 = .ok (.lstore 11, 2) := by decide +kernel
theorem dX8_delay_70 : decode cX8_delay 70 = .ok (.aload_n 0, 1) := by decide +kernel
theorem dX8_delay_71 : decode cX8_delay 71 = .ok (.getfield 16, 3) := by decide +kernel
theorem dX8_delay_74 : decode cX8_delay 74 = .ok (.iload_n 2, 1) := by decide +kernel
theorem dX8_delay_75 : decode cX8_delay 75 = .ok (.bipush 17, 2) := by decide +kernel
theorem dX8_delay_77 : decode cX8_delay 77 = .ok (.imul, 1) := by decide +kernel
theorem dX8_delay_78 : decode cX8_delay 78 = .ok (.iload 10, 2) := by decide +kernel
theorem dX8_delay_80 : decode cX8_delay 80 = .ok (.iadd, 1) := by decide +kernel
theorem dX8_delay_81 : decode cX8_delay 81 = .ok (.lload 11, 2) := by decide +kernel
theorem dX8_delay_83 : decode cX8_delay 83 = .ok (.iload_n 3, 1) := by decide +kernel
theorem dX8_delay_84 : decode cX8_delay 84 = .ok (.lshl, 1) := by decide +kernel
theorem dX8_delay_85 : decode cX8_delay 85 = .ok (.lload 8, 2) := by decide +kernel
theorem dX8_delay_87 : decode cX8_delay 87 = .ok (.bipush 64, 2) := by decide +kernel
theorem dX8_delay_89 : decode cX8_delay 89 = .ok (.iload_n 3, 1) := by decide +kernel
theorem dX8_delay_90 : decode cX8_delay 90 = .ok (.isub, 1) := by decide +kernel
theorem dX8_delay_91 : decode cX8_delay 91 = .ok (.lushr, 1) := by decide +kernel
theorem dX8_delay_92 : decode cX8_delay 92 = .ok (.lor, 1) := by decide +kernel
theorem dX8_delay_93 : decode cX8_delay 93 = .ok (.invokevirtual 73, 3) := by decide +kernel
theorem dX8_delay_96 : decode cX8_delay 96 = .ok (.lload 11, 2) := by decide +kernel
theorem dX8_delay_98 : decode cX8_delay 98 = .ok (.lstore 8, 2) := by decide +kernel
theorem dX8_delay_100 : decode cX8_delay 100 = .ok (.iinc 10 1, 3) := by decide +kernel
theorem dX8_delay_103 : decode cX8_delay 103 = .ok (.goto (-76), 3) := by decide +kernel
theorem dX8_delay_106 : decode cX8_delay 106 = .ok (.return_, 1) := by decide +kernel
set_option maxRecDepth 20000 in
theorem ggX8_countGate_X9_at : GoodIn wsX8_countGate wsX9_at := goodIn_r _ [7, 8, 34] (by decide +kernel) (by decide +kernel)
set_option maxRecDepth 20000 in
theorem gX8_countGate_X9_at : GoodIn wsX8_countGate (wsV RX8 82 RX9 yX9_at wsX9_at) := goodIn_app (goodIn_of _ (by decide +kernel)) ggX8_countGate_X9_at
set_option maxRecDepth 20000 in
theorem ggX8_countGate_J13_bitCount_95d88 : GoodIn wsX8_countGate wsJ13_bitCount_95d88 := goodIn_r _ [12, 13, 14, 15] (by decide +kernel) (by decide +kernel)
set_option maxRecDepth 20000 in
theorem gX8_countGate_J13_bitCount_95d88 : GoodIn wsX8_countGate (va_wsS RX8 88 yJ13_bitCount_95d88 wsJ13_bitCount_95d88) := goodIn_app (goodIn_of _ (by decide +kernel)) ggX8_countGate_J13_bitCount_95d88
set_option maxRecDepth 20000 in
theorem ggX8_countGate_X8_highestBit : GoodIn wsX8_countGate wsX8_highestBit := goodIn_r _ [19] (by decide +kernel) (by decide +kernel)
set_option maxRecDepth 20000 in
theorem gX8_countGate_X8_highestBit : GoodIn wsX8_countGate (va_wsS RX8 94 yX8_highestBit wsX8_highestBit) := goodIn_app (goodIn_of _ (by decide +kernel)) ggX8_countGate_X8_highestBit
set_option maxRecDepth 20000 in
theorem ggX8_countGate_X5_add : GoodIn wsX8_countGate wsX5_add := goodIn_r _ [24, 25, 26, 27, 28, 29, 30, 31, 35, 36, 37] (by decide +kernel) (by decide +kernel)
set_option maxRecDepth 20000 in
theorem gX8_countGate_X5_add : GoodIn wsX8_countGate (wsV RX8 97 RX5 yX5_add wsX5_add) := goodIn_app (goodIn_of _ (by decide +kernel)) ggX8_countGate_X5_add
theorem dX8_countGate_0 : decode cX8_countGate 0 = .ok (.lload_n 2, 1) := by decide +kernel
theorem dX8_countGate_1 : decode cX8_countGate 1 = .ok (.lstore 6, 2) := by decide +kernel
theorem dX8_countGate_3 : decode cX8_countGate 3 = .ok (.iconst 0, 1) := by decide +kernel
theorem dX8_countGate_4 : decode cX8_countGate 4 = .ok (.istore 8, 2) := by decide +kernel
theorem dX8_countGate_6 : decode cX8_countGate 6 = .ok (.iload 8, 2) := by decide +kernel
theorem dX8_countGate_8 : decode cX8_countGate 8 = .ok (.aload_n 0, 1) := by decide +kernel
theorem dX8_countGate_9 : decode cX8_countGate 9 = .ok (.getfield 26, 3) := by decide +kernel
theorem dX8_countGate_12 : decode cX8_countGate 12 = .ok (.if_icmp .ge 74, 3) := by decide +kernel
theorem dX8_countGate_15 : decode cX8_countGate 15 = .ok (.aload_n 0, 1) := by decide +kernel
theorem dX8_countGate_16 : decode cX8_countGate 16 = .ok (.getfield 16, 3) := by decide +kernel
theorem dX8_countGate_19 : decode cX8_countGate 19 = .ok (.iload_n 1, 1) := by decide +kernel
theorem dX8_countGate_20 : decode cX8_countGate 20 = .ok (.bipush 17, 2) := by decide +kernel
theorem dX8_countGate_22 : decode cX8_countGate 22 = .ok (.imul, 1) := by decide +kernel
theorem dX8_countGate_23 : decode cX8_countGate 23 = .ok (.iload 8, 2) := by decide +kernel
theorem dX8_countGate_25 : decode cX8_countGate 25 = .ok (.iadd, 1) := by decide +kernel
theorem dX8_countGate_26 : decode cX8_countGate 26 = .ok (.invokevirtual 82, 3) := by decide +kernel
theorem dX8_countGate_29 : decode cX8_countGate 29 = .ok (.lstore 9, 2) := by decide +kernel
theorem dX8_countGate_31 : decode cX8_countGate 31 = .ok (.lload 9, 2) := by decide +kernel
theorem dX8_countGate_33 : decode cX8_countGate 33 = .ok (.lload 9, 2) := by decide +kernel
theorem dX8_countGate_35 : decode cX8_countGate 35 = .ok (.iconst 1, 1) := by decide +kernel
theorem dX8_countGate_36 : decode cX8_countGate 36 = .ok (.lshl, 1) := by decide +kernel
theorem dX8_countGate_37 : decode cX8_countGate 37 = .ok (.lload 6, 2) := by decide +kernel
theorem dX8_countGate_39 : decode cX8_countGate 39 = .ok (.bipush 63, 2) := by decide +kernel
theorem dX8_countGate_41 : decode cX8_countGate 41 = .ok (.lushr, 1) := by decide +kernel
theorem dX8_countGate_42 : decode cX8_countGate 42 = .ok (.lor, 1) := by decide +kernel
theorem dX8_countGate_43 : decode cX8_countGate 43 = .ok (.lxor, 1) := by decide +kernel
theorem dX8_countGate_44 : decode cX8_countGate 44 = .ok (.lstore 11, 2) := by decide +kernel
theorem dX8_countGate_46 : decode cX8_countGate 46 = .ok (.lload 11, 2) := by decide +kernel
theorem dX8_countGate_48 : decode cX8_countGate 48 = .ok (.lconst 0, 1) := by decide +kernel
theorem dX8_countGate_49 : decode cX8_countGate 49 = .ok (.lcmp, 1) := by decide +kernel
theorem dX8_countGate_50 : decode cX8_countGate 50 = .ok (.ifCond .eq 26, 3) := by decide +kernel
theorem dX8_countGate_53 : decode cX8_countGate 53 = .ok (.aload 5, 2) := by decide +kernel
theorem dX8_countGate_55 : decode cX8_countGate 55 = .ok (.lload 11, 2) := by decide +kernel
theorem dX8_countGate_57 : decode cX8_countGate 57 = .ok (.invokestatic 88, 3) := by decide +kernel
theorem dX8_countGate_60 : decode cX8_countGate 60 = .ok (.iload 8, 2) := by decide +kernel
theorem dX8_countGate_62 : decode cX8_countGate 62 = .ok (.bipush 64, 2) := by decide +kernel
theorem dX8_countGate_64 : decode cX8_countGate 64 = .ok (.imul, 1) := by decide +kernel
theorem dX8_countGate_65 : decode cX8_countGate 65 = .ok (.lload 11, 2) := by decide +kernel
theorem dX8_countGate_67 : decode cX8_countGate 67 = .ok (.invokestatic 94, 3) := by decide +kernel
theorem dX8_countGate_70 : decode cX8_countGate 70 = .ok (.iadd, 1) := by decide +kernel
theorem dX8_countGate_71 : decode cX8_countGate 71 = .ok (.iload 4, 2) := by decide +kernel
theorem dX8_countGate_73 : decode cX8_countGate 73 = .ok (.invokevirtual 97, 3) := by decide +kernel
theorem dX8_countGate_76 : decode cX8_countGate 76 = .ok (.lload 9, 2) := by decide +kernel
theorem dX8_countGate_78 : decode cX8_countGate 78 = .ok (.lstore 6, 2) := by decide +kernel
theorem dX8_countGate_80 : decode cX8_countGate 80 = .ok (.iinc 8 1, 3) := by decide +kernel
theorem dX8_countGate_83 : decode cX8_countGate 83 = .ok (.goto (-77), 3) := by decide +kernel
theorem dX8_countGate_86 : decode cX8_countGate 86 = .ok (.return_, 1) := by decide +kernel
theorem dX8_highestBit_0 : decode cX8_highestBit 0 = .ok (.iconst 0, 1) := by decide +kernel
theorem dX8_highestBit_1 : decode cX8_highestBit 1 = .ok (.istore_n 2, 1) := by decide +kernel
theorem dX8_highestBit_2 : decode cX8_highestBit 2 = .ok (.iconst 1, 1) := by decide +kernel
theorem dX8_highestBit_3 : decode cX8_highestBit 3 = .ok (.istore_n 3, 1) := by decide +kernel
theorem dX8_highestBit_4 : decode cX8_highestBit 4 = .ok (.iload_n 3, 1) := by decide +kernel
theorem dX8_highestBit_5 : decode cX8_highestBit 5 = .ok (.bipush 64, 2) := by decide +kernel
theorem dX8_highestBit_7 : decode cX8_highestBit 7 = .ok (.if_icmp .ge 21, 3) := by decide +kernel
theorem dX8_highestBit_10 : decode cX8_highestBit 10 = .ok (.lload_n 0, 1) := by decide +kernel
theorem dX8_highestBit_11 : decode cX8_highestBit 11 = .ok (.iload_n 3, 1) := by decide +kernel
theorem dX8_highestBit_12 : decode cX8_highestBit 12 = .ok (.lushr, 1) := by decide +kernel
theorem dX8_highestBit_13 : decode cX8_highestBit 13 = .ok (.lconst 1, 1) := by decide +kernel
theorem dX8_highestBit_14 : decode cX8_highestBit 14 = .ok (.land, 1) := by decide +kernel
theorem dX8_highestBit_15 : decode cX8_highestBit 15 = .ok (.lconst 0, 1) := by decide +kernel
theorem dX8_highestBit_16 : decode cX8_highestBit 16 = .ok (.lcmp, 1) := by decide +kernel
theorem dX8_highestBit_17 : decode cX8_highestBit 17 = .ok (.ifCond .eq 5, 3) := by decide +kernel
theorem dX8_highestBit_20 : decode cX8_highestBit 20 = .ok (.iload_n 3, 1) := by decide +kernel
theorem dX8_highestBit_21 : decode cX8_highestBit 21 = .ok (.istore_n 2, 1) := by decide +kernel
theorem dX8_highestBit_22 : decode cX8_highestBit 22 = .ok (.iinc 3 1, 3) := by decide +kernel
theorem dX8_highestBit_25 : decode cX8_highestBit 25 = .ok (.goto (-21), 3) := by decide +kernel
theorem dX8_highestBit_28 : decode cX8_highestBit 28 = .ok (.iload_n 2, 1) := by decide +kernel
theorem dX8_highestBit_29 : decode cX8_highestBit 29 = .ok (.ireturn, 1) := by decide +kernel

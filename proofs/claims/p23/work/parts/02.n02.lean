set_option maxRecDepth 20000 in
theorem ggX3_init_X4_init : GoodIn wsX3_init wsX4_init := goodIn_r _ [14, 15, 2, 3, 16, 17, 18] (by decide +kernel) (by decide +kernel)
set_option maxRecDepth 20000 in
theorem gX3_init_X4_init : GoodIn wsX3_init (wsX4_init) := ggX3_init_X4_init
theorem dX3_init_0 : decode cX3_init 0 = .ok (.aload_n 0, 1) := by decide +kernel
theorem dX3_init_1 : decode cX3_init 1 = .ok (.invokespecial 3, 3) := by decide +kernel
theorem dX3_init_4 : decode cX3_init 4 = .ok (.aload_n 0, 1) := by decide +kernel
theorem dX3_init_5 : decode cX3_init 5 = .ok (.new 9, 3) := by decide +kernel
theorem dX3_init_8 : decode cX3_init 8 = .ok (.dup, 1) := by decide +kernel
theorem dX3_init_9 : decode cX3_init 9 = .ok (.bipush 120, 2) := by decide +kernel
theorem dX3_init_11 : decode cX3_init 11 = .ok (.invokespecial 11, 3) := by decide +kernel
theorem dX3_init_14 : decode cX3_init 14 = .ok (.putfield 14, 3) := by decide +kernel
theorem dX3_init_17 : decode cX3_init 17 = .ok (.aload_n 0, 1) := by decide +kernel
theorem dX3_init_18 : decode cX3_init 18 = .ok (.new 9, 3) := by decide +kernel
theorem dX3_init_21 : decode cX3_init 21 = .ok (.dup, 1) := by decide +kernel
theorem dX3_init_22 : decode cX3_init 22 = .ok (.bipush 120, 2) := by decide +kernel
theorem dX3_init_24 : decode cX3_init 24 = .ok (.invokespecial 11, 3) := by decide +kernel
theorem dX3_init_27 : decode cX3_init 27 = .ok (.putfield 20, 3) := by decide +kernel
theorem dX3_init_30 : decode cX3_init 30 = .ok (.aload_n 0, 1) := by decide +kernel
theorem dX3_init_31 : decode cX3_init 31 = .ok (.new 9, 3) := by decide +kernel
theorem dX3_init_34 : decode cX3_init 34 = .ok (.dup, 1) := by decide +kernel
theorem dX3_init_35 : decode cX3_init 35 = .ok (.bipush 120, 2) := by decide +kernel
theorem dX3_init_37 : decode cX3_init 37 = .ok (.invokespecial 11, 3) := by decide +kernel
theorem dX3_init_40 : decode cX3_init 40 = .ok (.putfield 23, 3) := by decide +kernel
theorem dX3_init_43 : decode cX3_init 43 = .ok (.aload_n 0, 1) := by decide +kernel
theorem dX3_init_44 : decode cX3_init 44 = .ok (.new 9, 3) := by decide +kernel
theorem dX3_init_47 : decode cX3_init 47 = .ok (.dup, 1) := by decide +kernel
theorem dX3_init_48 : decode cX3_init 48 = .ok (.bipush 120, 2) := by decide +kernel
theorem dX3_init_50 : decode cX3_init 50 = .ok (.invokespecial 11, 3) := by decide +kernel
theorem dX3_init_53 : decode cX3_init 53 = .ok (.putfield 26, 3) := by decide +kernel
theorem dX3_init_56 : decode cX3_init 56 = .ok (.aload_n 0, 1) := by decide +kernel
theorem dX3_init_57 : decode cX3_init 57 = .ok (.new 9, 3) := by decide +kernel
theorem dX3_init_60 : decode cX3_init 60 = .ok (.dup, 1) := by decide +kernel
theorem dX3_init_61 : decode cX3_init 61 = .ok (.bipush 16, 2) := by decide +kernel
theorem dX3_init_63 : decode cX3_init 63 = .ok (.invokespecial 11, 3) := by decide +kernel
theorem dX3_init_66 : decode cX3_init 66 = .ok (.putfield 29, 3) := by decide +kernel
theorem dX3_init_69 : decode cX3_init 69 = .ok (.return_, 1) := by decide +kernel
theorem dX3_size_0 : decode cX3_size 0 = .ok (.aload_n 0, 1) := by decide +kernel
theorem dX3_size_1 : decode cX3_size 1 = .ok (.getfield 32, 3) := by decide +kernel
theorem dX3_size_4 : decode cX3_size 4 = .ok (.ireturn, 1) := by decide +kernel
theorem dX3_inputCount_0 : decode cX3_inputCount 0 = .ok (.aload_n 0, 1) := by decide +kernel
theorem dX3_inputCount_1 : decode cX3_inputCount 1 = .ok (.getfield 36, 3) := by decide +kernel
theorem dX3_inputCount_4 : decode cX3_inputCount 4 = .ok (.ireturn, 1) := by decide +kernel
theorem dX3_outCount_0 : decode cX3_outCount 0 = .ok (.aload_n 0, 1) := by decide +kernel
theorem dX3_outCount_1 : decode cX3_outCount 1 = .ok (.getfield 39, 3) := by decide +kernel
theorem dX3_outCount_4 : decode cX3_outCount 4 = .ok (.ireturn, 1) := by decide +kernel
theorem dX3_isFull_0 : decode cX3_isFull 0 = .ok (.aload_n 0, 1) := by decide +kernel
theorem dX3_isFull_1 : decode cX3_isFull 1 = .ok (.getfield 32, 3) := by decide +kernel
theorem dX3_isFull_4 : decode cX3_isFull 4 = .ok (.bipush 120, 2) := by decide +kernel
theorem dX3_isFull_6 : decode cX3_isFull 6 = .ok (.if_icmp .lt 7, 3) := by decide +kernel
theorem dX3_isFull_9 : decode cX3_isFull 9 = .ok (.iconst 1, 1) := by decide +kernel
theorem dX3_isFull_10 : decode cX3_isFull 10 = .ok (.goto 4, 3) := by decide +kernel
theorem dX3_isFull_13 : decode cX3_isFull 13 = .ok (.iconst 0, 1) := by decide +kernel
theorem dX3_isFull_14 : decode cX3_isFull 14 = .ok (.ireturn, 1) := by decide +kernel
theorem dX3_has_0 : decode cX3_has 0 = .ok (.iload_n 1, 1) := by decide +kernel
theorem dX3_has_1 : decode cX3_has 1 = .ok (.ifCond .lt 15, 3) := by decide +kernel
theorem dX3_has_4 : decode cX3_has 4 = .ok (.iload_n 1, 1) := by decide +kernel
theorem dX3_has_5 : decode cX3_has 5 = .ok (.aload_n 0, 1) := by decide +kernel
theorem dX3_has_6 : decode cX3_has 6 = .ok (.getfield 32, 3) := by decide +kernel
theorem dX3_has_9 : decode cX3_has 9 = .ok (.if_icmp .ge 7, 3) := by decide +kernel
theorem dX3_has_12 : decode cX3_has 12 = .ok (.iconst 1, 1) := by decide +kernel
theorem dX3_has_13 : decode cX3_has 13 = .ok (.goto 4, 3) := by decide +kernel
theorem dX3_has_16 : decode cX3_has 16 = .ok (.iconst 0, 1) := by decide +kernel
theorem dX3_has_17 : decode cX3_has 17 = .ok (.ireturn, 1) := by decide +kernel
set_option maxRecDepth 20000 in
theorem ggX3_isInput_X4_at : GoodIn wsX3_isInput wsX4_at := goodIn_r _ [6, 7, 16] (by decide +kernel) (by decide +kernel)
set_option maxRecDepth 20000 in
theorem gX3_isInput_X4_at : GoodIn wsX3_isInput (wsV RX3 42 RX4 yX4_at wsX4_at) := goodIn_app (goodIn_of _ (by decide +kernel)) ggX3_isInput_X4_at
theorem dX3_isInput_0 : decode cX3_isInput 0 = .ok (.aload_n 0, 1) := by decide +kernel
theorem dX3_isInput_1 : decode cX3_isInput 1 = .ok (.getfield 14, 3) := by decide +kernel
theorem dX3_isInput_4 : decode cX3_isInput 4 = .ok (.iload_n 1, 1) := by decide +kernel
theorem dX3_isInput_5 : decode cX3_isInput 5 = .ok (.invokevirtual 42, 3) := by decide +kernel
theorem dX3_isInput_8 : decode cX3_isInput 8 = .ok (.iconst 4, 1) := by decide +kernel
theorem dX3_isInput_9 : decode cX3_isInput 9 = .ok (.if_icmp .ne 7, 3) := by decide +kernel
theorem dX3_isInput_12 : decode cX3_isInput 12 = .ok (.iconst 1, 1) := by decide +kernel
theorem dX3_isInput_13 : decode cX3_isInput 13 = .ok (.goto 4, 3) := by decide +kernel
theorem dX3_isInput_16 : decode cX3_isInput 16 = .ok (.iconst 0, 1) := by decide +kernel
theorem dX3_isInput_17 : decode cX3_isInput 17 = .ok (.ireturn, 1) := by decide +kernel
set_option maxRecDepth 20000 in
theorem ggX3_kindOf_X4_at : GoodIn wsX3_kindOf wsX4_at := goodIn_r _ [6, 7, 16] (by decide +kernel) (by decide +kernel)
set_option maxRecDepth 20000 in
theorem gX3_kindOf_X4_at : GoodIn wsX3_kindOf (wsV RX3 42 RX4 yX4_at wsX4_at) := goodIn_app (goodIn_of _ (by decide +kernel)) ggX3_kindOf_X4_at
theorem dX3_kindOf_0 : decode cX3_kindOf 0 = .ok (.aload_n 0, 1) := by decide +kernel
theorem dX3_kindOf_1 : decode cX3_kindOf 1 = .ok (.getfield 14, 3) := by decide +kernel
theorem dX3_kindOf_4 : decode cX3_kindOf 4 = .ok (.iload_n 1, 1) := by decide +kernel
theorem dX3_kindOf_5 : decode cX3_kindOf 5 = .ok (.invokevirtual 42, 3) := by decide +kernel
theorem dX3_kindOf_8 : decode cX3_kindOf 8 = .ok (.ireturn, 1) := by decide +kernel
set_option maxRecDepth 20000 in
theorem ggX3_firstOf_X4_at : GoodIn wsX3_firstOf wsX4_at := goodIn_r _ [6, 7, 16] (by decide +kernel) (by decide +kernel)
set_option maxRecDepth 20000 in
theorem gX3_firstOf_X4_at : GoodIn wsX3_firstOf (wsV RX3 42 RX4 yX4_at wsX4_at) := goodIn_app (goodIn_of _ (by decide +kernel)) ggX3_firstOf_X4_at
theorem dX3_firstOf_0 : decode cX3_firstOf 0 = .ok (.aload_n 0, 1) := by decide +kernel
theorem dX3_firstOf_1 : decode cX3_firstOf 1 = .ok (.getfield 20, 3) := by decide +kernel
theorem dX3_firstOf_4 : decode cX3_firstOf 4 = .ok (.iload_n 1, 1) := by decide +kernel
theorem dX3_firstOf_5 : decode cX3_firstOf 5 = .ok (.invokevirtual 42, 3) := by decide +kernel
theorem dX3_firstOf_8 : decode cX3_firstOf 8 = .ok (.ireturn, 1) := by decide +kernel
set_option maxRecDepth 20000 in
theorem ggX3_secondOf_X4_at : GoodIn wsX3_secondOf wsX4_at := goodIn_r _ [6, 7, 16] (by decide +kernel) (by decide +kernel)
set_option maxRecDepth 20000 in
theorem gX3_secondOf_X4_at : GoodIn wsX3_secondOf (wsV RX3 42 RX4 yX4_at wsX4_at) := goodIn_app (goodIn_of _ (by decide +kernel)) ggX3_secondOf_X4_at
theorem dX3_secondOf_0 : decode cX3_secondOf 0 = .ok (.aload_n 0, 1) := by decide +kernel
theorem dX3_secondOf_1 : decode cX3_secondOf 1 = .ok (.getfield 23, 3) := by decide +kernel
theorem dX3_secondOf_4 : decode cX3_secondOf 4 = .ok (.iload_n 1, 1) := by decide +kernel
theorem dX3_secondOf_5 : decode cX3_secondOf 5 = .ok (.invokevirtual 42, 3) := by decide +kernel
theorem dX3_secondOf_8 : decode cX3_secondOf 8 = .ok (.ireturn, 1) := by decide +kernel
set_option maxRecDepth 20000 in
theorem ggX3_stuckBitOf_X4_at : GoodIn wsX3_stuckBitOf wsX4_at := goodIn_r _ [6, 7, 16] (by decide +kernel) (by decide +kernel)
set_option maxRecDepth 20000 in
theorem gX3_stuckBitOf_X4_at : GoodIn wsX3_stuckBitOf (wsV RX3 42 RX4 yX4_at wsX4_at) := goodIn_app (goodIn_of _ (by decide +kernel)) ggX3_stuckBitOf_X4_at
theorem dX3_stuckBitOf_0 : decode cX3_stuckBitOf 0 = .ok (.aload_n 0, 1) := by decide +kernel
theorem dX3_stuckBitOf_1 : decode cX3_stuckBitOf 1 = .ok (.getfield 26, 3) := by decide +kernel
theorem dX3_stuckBitOf_4 : decode cX3_stuckBitOf 4 = .ok (.iload_n 1, 1) := by decide +kernel
theorem dX3_stuckBitOf_5 : decode cX3_stuckBitOf 5 = .ok (.invokevirtual 42, 3) := by decide +kernel
theorem dX3_stuckBitOf_8 : decode cX3_stuckBitOf 8 = .ok (.ireturn, 1) := by decide +kernel
set_option maxRecDepth 20000 in
theorem ggX3_setStuckBit_X4_put : GoodIn wsX3_setStuckBit wsX4_put := goodIn_r _ [6, 7, 16] (by decide +kernel) (by decide +kernel)
set_option maxRecDepth 20000 in
theorem gX3_setStuckBit_X4_put : GoodIn wsX3_setStuckBit (wsV RX3 46 RX4 yX4_put wsX4_put) := goodIn_app (goodIn_of _ (by decide +kernel)) ggX3_setStuckBit_X4_put
theorem dX3_setStuckBit_0 : decode cX3_setStuckBit 0 = .ok (.aload_n 0, 1) := by decide +kernel
theorem dX3_setStuckBit_1 : decode cX3_setStuckBit 1 = .ok (.getfield 26, 3) := by decide +kernel
theorem dX3_setStuckBit_4 : decode cX3_setStuckBit 4 = .ok (.iload_n 1, 1) := by decide +kernel
theorem dX3_setStuckBit_5 : decode cX3_setStuckBit 5 = .ok (.iload_n 2, 1) := by decide +kernel
theorem dX3_setStuckBit_6 : decode cX3_setStuckBit 6 = .ok (.invokevirtual 46, 3) := by decide +kernel
theorem dX3_setStuckBit_9 : decode cX3_setStuckBit 9 = .ok (.return_, 1) := by decide +kernel
set_option maxRecDepth 20000 in
theorem ggX3_outAt_X4_at : GoodIn wsX3_outAt wsX4_at := goodIn_r _ [6, 7, 16] (by decide +kernel) (by decide +kernel)
set_option maxRecDepth 20000 in
theorem gX3_outAt_X4_at : GoodIn wsX3_outAt (wsV RX3 42 RX4 yX4_at wsX4_at) := goodIn_app (goodIn_of _ (by decide +kernel)) ggX3_outAt_X4_at
theorem dX3_outAt_0 : decode cX3_outAt 0 = .ok (.aload_n 0, 1) := by decide +kernel
theorem dX3_outAt_1 : decode cX3_outAt 1 = .ok (.getfield 29, 3) := by decide +kernel
theorem dX3_outAt_4 : decode cX3_outAt 4 = .ok (.iload_n 1, 1) := by decide +kernel
theorem dX3_outAt_5 : decode cX3_outAt 5 = .ok (.invokevirtual 42, 3) := by decide +kernel
theorem dX3_outAt_8 : decode cX3_outAt 8 = .ok (.ireturn, 1) := by decide +kernel
set_option maxRecDepth 20000 in
theorem ggX3_isOut_X4_at : GoodIn wsX3_isOut wsX4_at := goodIn_r _ [7, 8, 17] (by decide +kernel) (by decide +kernel)
set_option maxRecDepth 20000 in
theorem gX3_isOut_X4_at : GoodIn wsX3_isOut (wsV RX3 42 RX4 yX4_at wsX4_at) := goodIn_app (goodIn_of _ (by decide +kernel)) ggX3_isOut_X4_at
theorem dX3_isOut_0 : decode cX3_isOut 0 = .ok (.iconst 0, 1) := by decide +kernel
theorem dX3_isOut_1 : decode cX3_isOut 1 = .ok (.istore_n 2, 1) := by decide +kernel
theorem dX3_isOut_2 : decode cX3_isOut 2 = .ok (.iload_n 2, 1) := by decide +kernel
theorem dX3_isOut_3 : decode cX3_isOut 3 = .ok (.aload_n 0, 1) := by decide +kernel
theorem dX3_isOut_4 : decode cX3_isOut 4 = .ok (.getfield 39, 3) := by decide +kernel
theorem dX3_isOut_7 : decode cX3_isOut 7 = .ok (.if_icmp .ge 23, 3) := by decide +kernel
theorem dX3_isOut_10 : decode cX3_isOut 10 = .ok (.aload_n 0, 1) := by decide +kernel
theorem dX3_isOut_11 : decode cX3_isOut 11 = .ok (.getfield 29, 3) := by decide +kernel
theorem dX3_isOut_14 : decode cX3_isOut 14 = .ok (.iload_n 2, 1) := by decide +kernel
theorem dX3_isOut_15 : decode cX3_isOut 15 = .ok (.invokevirtual 42, 3) := by decide +kernel
theorem dX3_isOut_18 : decode cX3_isOut 18 = .ok (.iload_n 1, 1) := by decide +kernel
theorem dX3_isOut_19 : decode cX3_isOut 19 = .ok (.if_icmp .ne 5, 3) := by decide +kernel
theorem dX3_isOut_22 : decode cX3_isOut 22 = .ok (.iconst 1, 1) := by decide +kernel
theorem dX3_isOut_23 : decode cX3_isOut 23 = .ok (.ireturn, 1) := by decide +kernel
theorem dX3_isOut_24 : decode cX3_isOut 24 = .ok (.iinc 2 1, 3) := by decide +kernel
theorem dX3_isOut_27 : decode cX3_isOut 27 = .ok (.goto (-25), 3) := by decide +kernel
theorem dX3_isOut_30 : decode cX3_isOut 30 = .ok (.iconst 0, 1) := by decide +kernel
theorem dX3_isOut_31 : decode cX3_isOut 31 = .ok (.ireturn, 1) := by decide +kernel
set_option maxRecDepth 20000 in
theorem ggX3_addInput_X3_add : GoodIn wsX3_addInput wsX3_add := goodIn_r _ [6, 7, 8, 9, 10, 11, 12, 13, 14, 15, 16, 17, 18, 19, 20, 21, 22, 23, 24, 25, 26] (by decide +kernel) (by decide +kernel)
set_option maxRecDepth 20000 in
theorem gX3_addInput_X3_add : GoodIn wsX3_addInput (wsV RX3 50 RX3 yX3_add wsX3_add) := goodIn_app (goodIn_of _ (by decide +kernel)) ggX3_addInput_X3_add
theorem dX3_addInput_0 : decode cX3_addInput 0 = .ok (.aload_n 0, 1) := by decide +kernel
theorem dX3_addInput_1 : decode cX3_addInput 1 = .ok (.dup, 1) := by decide +kernel
theorem dX3_addInput_2 : decode cX3_addInput 2 = .ok (.getfield 36, 3) := by decide +kernel
theorem dX3_addInput_5 : decode cX3_addInput 5 = .ok (.iconst 1, 1) := by decide +kernel
theorem dX3_addInput_6 : decode cX3_addInput 6 = .ok (.iadd, 1) := by decide +kernel
theorem dX3_addInput_7 : decode cX3_addInput 7 = .ok (.putfield 36, 3) := by decide +kernel
theorem dX3_addInput_10 : decode cX3_addInput 10 = .ok (.aload_n 0, 1) := by decide +kernel
theorem dX3_addInput_11 : decode cX3_addInput 11 = .ok (.iconst 4, 1) := by decide +kernel
theorem dX3_addInput_12 : decode cX3_addInput 12 = .ok (.iconst 0, 1) := by decide +kernel
theorem dX3_addInput_13 : decode cX3_addInput 13 = .ok (.iconst 0, 1) := by decide +kernel
theorem dX3_addInput_14 : decode cX3_addInput 14 = .ok (.invokevirtual 50, 3) := by decide +kernel
theorem dX3_addInput_17 : decode cX3_addInput 17 = .ok (.ireturn, 1) := by decide +kernel
set_option maxRecDepth 20000 in
theorem ggX3_addJoined_X3_add : GoodIn wsX3_addJoined wsX3_add := goodIn_r _ [5, 6, 7, 8, 9, 10, 11, 12, 13, 14, 15, 16, 17, 18, 19, 20, 21, 22, 23, 24, 25] (by decide +kernel) (by decide +kernel)
set_option maxRecDepth 20000 in
theorem gX3_addJoined_X3_add : GoodIn wsX3_addJoined (wsV RX3 50 RX3 yX3_add wsX3_add) := goodIn_app (goodIn_of _ (by decide +kernel)) ggX3_addJoined_X3_add
theorem dX3_addJoined_0 : decode cX3_addJoined 0 = .ok (.aload_n 0, 1) := by decide +kernel
theorem dX3_addJoined_1 : decode cX3_addJoined 1 = .ok (.iload_n 1, 1) := by decide +kernel
theorem dX3_addJoined_2 : decode cX3_addJoined 2 = .ok (.iload_n 2, 1) := by decide +kernel
theorem dX3_addJoined_3 : decode cX3_addJoined 3 = .ok (.iload_n 1, 1) := by decide +kernel
theorem dX3_addJoined_4 : decode cX3_addJoined 4 = .ok (.iconst 3, 1) := by decide +kernel
theorem dX3_addJoined_5 : decode cX3_addJoined 5 = .ok (.if_icmp .ne 7, 3) := by decide +kernel
theorem dX3_addJoined_8 : decode cX3_addJoined 8 = .ok (.iload_n 2, 1) := by decide +kernel
theorem dX3_addJoined_9 : decode cX3_addJoined 9 = .ok (.goto 4, 3) := by decide +kernel
theorem dX3_addJoined_12 : decode cX3_addJoined 12 = .ok (.iload_n 3, 1) := by decide +kernel
theorem dX3_addJoined_13 : decode cX3_addJoined 13 = .ok (.invokevirtual 50, 3) := by decide +kernel
theorem dX3_addJoined_16 : decode cX3_addJoined 16 = .ok (.ireturn, 1) := by decide +kernel
set_option maxRecDepth 20000 in
theorem ggX3_addOut_X4_put : GoodIn wsX3_addOut wsX4_put := goodIn_r _ [7, 8, 17] (by decide +kernel) (by decide +kernel)
set_option maxRecDepth 20000 in
theorem gX3_addOut_X4_put : GoodIn wsX3_addOut (wsV RX3 46 RX4 yX4_put wsX4_put) := goodIn_app (goodIn_of _ (by decide +kernel)) ggX3_addOut_X4_put
theorem dX3_addOut_0 : decode cX3_addOut 0 = .ok (.aload_n 0, 1) := by decide +kernel
theorem dX3_addOut_1 : decode cX3_addOut 1 = .ok (.getfield 39, 3) := by decide +kernel
theorem dX3_addOut_4 : decode cX3_addOut 4 = .ok (.istore_n 2, 1) := by decide +kernel
theorem dX3_addOut_5 : decode cX3_addOut 5 = .ok (.aload_n 0, 1) := by decide +kernel
theorem dX3_addOut_6 : decode cX3_addOut 6 = .ok (.getfield 29, 3) := by decide +kernel
theorem dX3_addOut_9 : decode cX3_addOut 9 = .ok (.iload_n 2, 1) := by decide +kernel
theorem dX3_addOut_10 : decode cX3_addOut 10 = .ok (.iload_n 1, 1) := by decide +kernel
theorem dX3_addOut_11 : decode cX3_addOut 11 = .ok (.invokevirtual 46, 3) := by decide +kernel
theorem dX3_addOut_14 : decode cX3_addOut 14 = .ok (.aload_n 0, 1) := by decide +kernel
theorem dX3_addOut_15 : decode cX3_addOut 15 = .ok (.dup, 1) := by decide +kernel
theorem dX3_addOut_16 : decode cX3_addOut 16 = .ok (.getfield 39, 3) := by decide +kernel
theorem dX3_addOut_19 : decode cX3_addOut 19 = .ok (.iconst 1, 1) := by decide +kernel
theorem dX3_addOut_20 : decode cX3_addOut 20 = .ok (.iadd, 1) := by decide +kernel
theorem dX3_addOut_21 : decode cX3_addOut 21 = .ok (.putfield 39, 3) := by decide +kernel
theorem dX3_addOut_24 : decode cX3_addOut 24 = .ok (.iload_n 2, 1) := by decide +kernel
theorem dX3_addOut_25 : decode cX3_addOut 25 = .ok (.ireturn, 1) := by decide +kernel
theorem dX3_removeAll_0 : decode cX3_removeAll 0 = .ok (.aload_n 0, 1) := by decide +kernel
theorem dX3_removeAll_1 : decode cX3_removeAll 1 = .ok (.iconst 0, 1) := by decide +kernel
theorem dX3_removeAll_2 : decode cX3_removeAll 2 = .ok (.putfield 32, 3) := by decide +kernel
theorem dX3_removeAll_5 : decode cX3_removeAll 5 = .ok (.aload_n 0, 1) := by decide +kernel
theorem dX3_removeAll_6 : decode cX3_removeAll 6 = .ok (.iconst 0, 1) := by decide +kernel
theorem dX3_removeAll_7 : decode cX3_removeAll 7 = .ok (.putfield 36, 3) := by decide +kernel
theorem dX3_removeAll_10 : decode cX3_removeAll 10 = .ok (.aload_n 0, 1) := by decide +kernel
theorem dX3_removeAll_11 : decode cX3_removeAll 11 = .ok (.iconst 0, 1) := by decide +kernel
theorem dX3_removeAll_12 : decode cX3_removeAll 12 = .ok (.putfield 39, 3) := by decide +kernel
theorem dX3_removeAll_15 : decode cX3_removeAll 15 = .ok (.return_, 1) := by decide +kernel
set_option maxRecDepth 20000 in
theorem ggX3_add_X4_put : GoodIn wsX3_add wsX4_put := goodIn_r _ [10, 11, 20] (by decide +kernel) (by decide +kernel)
set_option maxRecDepth 20000 in
theorem gX3_add_X4_put : GoodIn wsX3_add (wsV RX3 46 RX4 yX4_put wsX4_put) := goodIn_app (goodIn_of _ (by decide +kernel)) ggX3_add_X4_put
theorem dX3_add_0 : decode cX3_add 0 = .ok (.aload_n 0, 1) := by decide +kernel
theorem dX3_add_1 : decode cX3_add 1 = .ok (.getfield 32, 3) := by decide +kernel
theorem dX3_add_4 : decode cX3_add 4 = .ok (.istore 4, 2) := by decide +kernel
theorem dX3_add_6 : decode cX3_add 6 = .ok (.aload_n 0, 1) := by decide +kernel
theorem dX3_add_7 : decode cX3_add 7 = .ok (.getfield 14, 3) := by decide +kernel
theorem dX3_add_10 : decode cX3_add 10 = .ok (.iload 4, 2) := by decide +kernel
theorem dX3_add_12 : decode cX3_add 12 = .ok (.iload_n 1, 1) := by decide +kernel
theorem dX3_add_13 : decode cX3_add 13 = .ok (.invokevirtual 46, 3) := by decide +kernel
theorem dX3_add_16 : decode cX3_add 16 = .ok (.aload_n 0, 1) := by decide +kernel
theorem dX3_add_17 : decode cX3_add 17 = .ok (.getfield 20, 3) := by decide +kernel
theorem dX3_add_20 : decode cX3_add 20 = .ok (.iload 4, 2) := by decide +kernel
theorem dX3_add_22 : decode cX3_add 22 = .ok (.iload_n 2, 1) := by decide +kernel
theorem dX3_add_23 : decode cX3_add 23 = .ok (.invokevirtual 46, 3) := by decide +kernel
theorem dX3_add_26 : decode cX3_add 26 = .ok (.aload_n 0, 1) := by decide +kernel
theorem dX3_add_27 : decode cX3_add 27 = .ok (.getfield 23, 3) := by decide +kernel
theorem dX3_add_30 : decode cX3_add 30 = .ok (.iload 4, 2) := by decide +kernel
theorem dX3_add_32 : decode cX3_add 32 = .ok (.iload_n 3, 1) := by decide +kernel
theorem dX3_add_33 : decode cX3_add 33 = .ok (.invokevirtual 46, 3) := by decide +kernel
theorem dX3_add_36 : decode cX3_add 36 = .ok (.aload_n 0, 1) := by decide +kernel
theorem dX3_add_37 : decode cX3_add 37 = .ok (.getfield 26, 3) := by decide +kernel
theorem dX3_add_40 : decode cX3_add 40 = .ok (.iload 4, 2) := by decide +kernel
theorem dX3_add_42 : decode cX3_add 42 = .ok (.iconst (-1), 1) := by decide +kernel
theorem dX3_add_43 : decode cX3_add 43 = .ok (.invokevirtual 46, 3) := by decide +kernel
theorem dX3_add_46 : decode cX3_add 46 = .ok (.aload_n 0, 1) := by decide +kernel
theorem dX3_add_47 : decode cX3_add 47 = .ok (.dup, 1) := by decide +kernel
theorem dX3_add_48 : decode cX3_add 48 = .ok (.getfield 32, 3) := by decide +kernel
theorem dX3_add_51 : decode cX3_add 51 = .ok (.iconst 1, 1) := by decide +kernel
theorem dX3_add_52 : decode cX3_add 52 = .ok (.iadd, 1) := by decide +kernel
theorem dX3_add_53 : decode cX3_add 53 = .ok (.putfield 32, 3) := by decide +kernel
theorem dX3_add_56 : decode cX3_add 56 = .ok (.iload 4, 2) := by decide +kernel
theorem dX3_add_58 : decode cX3_add 58 = .ok (.ireturn, 1) := by decide +kernel

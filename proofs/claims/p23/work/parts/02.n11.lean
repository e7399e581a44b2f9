set_option maxRecDepth 20000 in
theorem ggX11_init_X4_init : GoodIn wsX11_init wsX4_init := goodIn_r _ [48, 49, 2, 3, 50, 51, 136] (by decide +kernel) (by decide +kernel)
set_option maxRecDepth 20000 in
theorem gX11_init_X4_init : GoodIn wsX11_init (wsX4_init) := ggX11_init_X4_init
set_option maxRecDepth 20000 in
theorem ggX11_init_X2_init : GoodIn wsX11_init wsX2_init := goodIn_r _ [53, 54, 2, 3, 55, 7, 8, 56, 57, 58, 59, 60, 61, 62, 63, 47, 48, 49, 50, 51, 136, 137, 138, 139, 140, 141, 142, 143, 144, 145, 146] (by decide +kernel) (by decide +kernel)
set_option maxRecDepth 20000 in
theorem gX11_init_X2_init_n29 : GoodIn wsX11_init (wsX2_init) := ggX11_init_X2_init
set_option maxRecDepth 20000 in
theorem ggX11_init_X10_init : GoodIn wsX11_init wsX10_init := goodIn_r _ [65, 66, 2, 3, 67, 7, 8, 68, 69, 70, 71, 47, 48, 49, 50, 51, 136, 147, 148, 149] (by decide +kernel) (by decide +kernel)
set_option maxRecDepth 20000 in
theorem gX11_init_X10_init_n36 : GoodIn wsX11_init (wsX10_init) := ggX11_init_X10_init
set_option maxRecDepth 20000 in
theorem ggX11_init_X7_init : GoodIn wsX11_init wsX7_init := goodIn_r _ [73, 74, 2, 3, 75, 7, 8, 76, 77, 47, 48, 49, 50, 51, 136, 150, 151] (by decide +kernel) (by decide +kernel)
set_option maxRecDepth 20000 in
theorem gX11_init_X7_init_n43 : GoodIn wsX11_init (wsX7_init) := ggX11_init_X7_init
set_option maxRecDepth 20000 in
theorem ggX11_init_X1_init : GoodIn wsX11_init wsX1_init := goodIn_r _ [79, 80, 2, 3, 81, 82, 83, 84, 85, 86, 87, 88, 89, 90, 91, 173, 152, 153] (by decide +kernel) (by decide +kernel)
set_option maxRecDepth 20000 in
theorem gX11_init_X1_init_n50 : GoodIn wsX11_init (wsX1_init) := ggX11_init_X1_init
set_option maxRecDepth 20000 in
theorem ggX11_init_X5_init : GoodIn wsX11_init wsX5_init := goodIn_r _ [93, 94, 2, 3] (by decide +kernel) (by decide +kernel)
set_option maxRecDepth 20000 in
theorem gX11_init_X5_init_n60 : GoodIn wsX11_init (wsX5_init) := ggX11_init_X5_init
set_option maxRecDepth 20000 in
theorem ggX11_init_X8_init : GoodIn wsX11_init wsX8_init := goodIn_r _ [96, 97, 2, 3, 98, 82, 83, 99, 100, 87, 88, 89, 90, 91, 173, 157, 158] (by decide +kernel) (by decide +kernel)
set_option maxRecDepth 20000 in
theorem gX11_init_X8_init_n67 : GoodIn wsX11_init (wsX8_init) := ggX11_init_X8_init
set_option maxRecDepth 20000 in
theorem ggX11_init_X6_init : GoodIn wsX11_init wsX6_init := goodIn_r _ [102, 103, 2, 3, 104, 7, 8, 105, 106, 47, 48, 49, 50, 51, 136, 159] (by decide +kernel) (by decide +kernel)
set_option maxRecDepth 20000 in
theorem gX11_init_X6_init_n74 : GoodIn wsX11_init (wsX6_init) := ggX11_init_X6_init
set_option maxRecDepth 20000 in
theorem ggX11_init_X0_init : GoodIn wsX11_init wsX0_init := goodIn_r _ [108, 109, 2, 3] (by decide +kernel) (by decide +kernel)
set_option maxRecDepth 20000 in
theorem gX11_init_X0_init_n81 : GoodIn wsX11_init (wsX0_init) := ggX11_init_X0_init
set_option maxRecDepth 20000 in
theorem ggX11_init_X3_init : GoodIn wsX11_init wsX3_init := goodIn_r _ [111, 112, 2, 3, 113, 7, 8, 114, 115, 116, 117, 118, 119, 47, 48, 49, 50, 51, 136, 165, 166, 167, 168, 169, 170, 171, 172] (by decide +kernel) (by decide +kernel)
set_option maxRecDepth 20000 in
theorem gX11_init_X3_init_n86 : GoodIn wsX11_init (wsX3_init) := ggX11_init_X3_init
set_option maxRecDepth 20000 in
theorem ggX11_init_X4_put : GoodIn wsX11_init wsX4_put := goodIn_r _ [123, 51, 136] (by decide +kernel) (by decide +kernel)
set_option maxRecDepth 20000 in
theorem gX11_init_X4_put : GoodIn wsX11_init (wsV RX11 87 RX4 yX4_put wsX4_put) := goodIn_app (goodIn_of _ (by decide +kernel)) ggX11_init_X4_put
theorem dX11_init_0 : decode cX11_init 0 = .ok (.aload_n 0, 1) := by decide +kernel
theorem dX11_init_1 : decode cX11_init 1 = .ok (.invokespecial 1, 3) := by decide +kernel
theorem dX11_init_4 : decode cX11_init 4 = .ok (.aload_n 0, 1) := by decide +kernel
theorem dX11_init_5 : decode cX11_init 5 = .ok (.iconst 4, 1) := by decide +kernel
theorem dX11_init_6 : decode cX11_init 6 = .ok (.anewarray 9, 3) := by decide +kernel
theorem dX11_init_9 : decode cX11_init 9 = .ok (.putfield 11, 3) := by decide +kernel
theorem dX11_init_12 : decode cX11_init 12 = .ok (.aload_n 0, 1) := by decide +kernel
theorem dX11_init_13 : decode cX11_init 13 = .ok (.new 15, 3) := by decide +kernel
theorem dX11_init_16 : decode cX11_init 16 = .ok (.dup, 1) := by decide +kernel
theorem dX11_init_17 : decode cX11_init 17 = .ok (.iconst 4, 1) := by decide +kernel
theorem dX11_init_18 : decode cX11_init 18 = .ok (.invokespecial 17, 3) := by decide +kernel
theorem dX11_init_21 : decode cX11_init 21 = .ok (.putfield 20, 3) := by decide +kernel
theorem dX11_init_24 : decode cX11_init 24 = .ok (.aload_n 0, 1) := by decide +kernel
theorem dX11_init_25 : decode cX11_init 25 = .ok (.new 15, 3) := by decide +kernel
theorem dX11_init_28 : decode cX11_init 28 = .ok (.dup, 1) := by decide +kernel
theorem dX11_init_29 : decode cX11_init 29 = .ok (.iconst 4, 1) := by decide +kernel
theorem dX11_init_30 : decode cX11_init 30 = .ok (.invokespecial 17, 3) := by decide +kernel
theorem dX11_init_33 : decode cX11_init 33 = .ok (.putfield 24, 3) := by decide +kernel
theorem dX11_init_36 : decode cX11_init 36 = .ok (.aload_n 0, 1) := by decide +kernel
theorem dX11_init_37 : decode cX11_init 37 = .ok (.new 27, 3) := by decide +kernel
theorem dX11_init_40 : decode cX11_init 40 = .ok (.dup, 1) := by decide +kernel
theorem dX11_init_41 : decode cX11_init 41 = .ok (.invokespecial 29, 3) := by decide +kernel
theorem dX11_init_44 : decode cX11_init 44 = .ok (.putfield 30, 3) := by decide +kernel
theorem dX11_init_47 : decode cX11_init 47 = .ok (.aload_n 0, 1) := by decide +kernel
theorem dX11_init_48 : decode cX11_init 48 = .ok (.new 34, 3) := by decide +kernel
theorem dX11_init_51 : decode cX11_init 51 = .ok (.dup, 1) := by decide +kernel
theorem dX11_init_52 : decode cX11_init 52 = .ok (.invokespecial 36, 3) := by decide +kernel
theorem dX11_init_55 : decode cX11_init 55 = .ok (.putfield 37, 3) := by decide +kernel
theorem dX11_init_58 : decode cX11_init 58 = .ok (.aload_n 0, 1) := by decide +kernel
theorem dX11_init_59 : decode cX11_init 59 = .ok (.new 41, 3) := by decide +kernel
theorem dX11_init_62 : decode cX11_init 62 = .ok (.dup, 1) := by decide +kernel
theorem dX11_init_63 : decode cX11_init 63 = .ok (.invokespecial 43, 3) := by decide +kernel
theorem dX11_init_66 : decode cX11_init 66 = .ok (.putfield 44, 3) := by decide +kernel
theorem dX11_init_69 : decode cX11_init 69 = .ok (.aload_n 0, 1) := by decide +kernel
theorem dX11_init_70 : decode cX11_init 70 = .ok (.new 48, 3) := by decide +kernel
theorem dX11_init_73 : decode cX11_init 73 = .ok (.dup, 1) := by decide +kernel
theorem dX11_init_74 : decode cX11_init 74 = .ok (.invokespecial 50, 3) := by decide +kernel
theorem dX11_init_77 : decode cX11_init 77 = .ok (.putfield 51, 3) := by decide +kernel
theorem dX11_init_80 : decode cX11_init 80 = .ok (.aload_n 0, 1) := by decide +kernel
theorem dX11_init_81 : decode cX11_init 81 = .ok (.new 48, 3) := by decide +kernel
theorem dX11_init_84 : decode cX11_init 84 = .ok (.dup, 1) := by decide +kernel
theorem dX11_init_85 : decode cX11_init 85 = .ok (.invokespecial 50, 3) := by decide +kernel
theorem dX11_init_88 : decode cX11_init 88 = .ok (.putfield 55, 3) := by decide +kernel
theorem dX11_init_91 : decode cX11_init 91 = .ok (.aload_n 0, 1) := by decide +kernel
theorem dX11_init_92 : decode cX11_init 92 = .ok (.new 58, 3) := by decide +kernel
theorem dX11_init_95 : decode cX11_init 95 = .ok (.dup, 1) := by decide +kernel
theorem dX11_init_96 : decode cX11_init 96 = .ok (.invokespecial 60, 3) := by decide +kernel
theorem dX11_init_99 : decode cX11_init 99 = .ok (.putfield 61, 3) := by decide +kernel
theorem dX11_init_102 : decode cX11_init 102 = .ok (.aload_n 0, 1) := by decide +kernel
theorem dX11_init_103 : decode cX11_init 103 = .ok (.new 65, 3) := by decide +kernel
theorem dX11_init_106 : decode cX11_init 106 = .ok (.dup, 1) := by decide +kernel
theorem dX11_init_107 : decode cX11_init 107 = .ok (.invokespecial 67, 3) := by decide +kernel
theorem dX11_init_110 : decode cX11_init 110 = .ok (.putfield 68, 3) := by decide +kernel
theorem dX11_init_113 : decode cX11_init 113 = .ok (.aload_n 0, 1) := by decide +kernel
theorem dX11_init_114 : decode cX11_init 114 = .ok (.new 72, 3) := by decide +kernel
theorem dX11_init_117 : decode cX11_init 117 = .ok (.dup, 1) := by decide +kernel
theorem dX11_init_118 : decode cX11_init 118 = .ok (.invokespecial 74, 3) := by decide +kernel
theorem dX11_init_121 : decode cX11_init 121 = .ok (.putfield 75, 3) := by decide +kernel
theorem dX11_init_124 : decode cX11_init 124 = .ok (.aload_n 0, 1) := by decide +kernel
theorem dX11_init_125 : decode cX11_init 125 = .ok (.new 79, 3) := by decide +kernel
theorem dX11_init_128 : decode cX11_init 128 = .ok (.dup, 1) := by decide +kernel
theorem dX11_init_129 : decode cX11_init 129 = .ok (.invokespecial 81, 3) := by decide +kernel
theorem dX11_init_132 : decode cX11_init 132 = .ok (.putfield 82, 3) := by decide +kernel
theorem dX11_init_135 : decode cX11_init 135 = .ok (.iconst 0, 1) := by decide +kernel
theorem dX11_init_136 : decode cX11_init 136 = .ok (.istore_n 1, 1) := by decide +kernel
theorem dX11_init_137 : decode cX11_init 137 = .ok (.iload_n 1, 1) := by decide +kernel
theorem dX11_init_138 : decode cX11_init 138 = .ok (.aload_n 0, 1) := by decide +kernel
theorem dX11_init_139 : decode cX11_init 139 = .ok (.getfield 11, 3) := by decide +kernel
theorem dX11_init_142 : decode cX11_init 142 = .ok (.arraylength, 1) := by decide +kernel
theorem dX11_init_143 : decode cX11_init 143 = .ok (.if_icmp .ge 22, 3) := by decide +kernel
theorem dX11_init_146 : decode cX11_init 146 = .ok (.aload_n 0, 1) := by decide +kernel
theorem dX11_init_147 : decode cX11_init 147 = .ok (.getfield 11, 3) := by decide +kernel
theorem dX11_init_150 : decode cX11_init 150 = .ok (.iload_n 1, 1) := by decide +kernel
theorem dX11_init_151 : decode cX11_init 151 = .ok (.new 9, 3) := by decide +kernel
theorem dX11_init_154 : decode cX11_init 154 = .ok (.dup, 1) := by decide +kernel
theorem dX11_init_155 : decode cX11_init 155 = .ok (.invokespecial 86, 3) := by decide +kernel
theorem dX11_init_158 : decode cX11_init 158 = .ok (.aastore, 1) := by decide +kernel
theorem dX11_init_159 : decode cX11_init 159 = .ok (.iinc 1 1, 3) := by decide +kernel
theorem dX11_init_162 : decode cX11_init 162 = .ok (.goto (-25), 3) := by decide +kernel
theorem dX11_init_165 : decode cX11_init 165 = .ok (.iconst 0, 1) := by decide +kernel
theorem dX11_init_166 : decode cX11_init 166 = .ok (.istore_n 1, 1) := by decide +kernel
theorem dX11_init_167 : decode cX11_init 167 = .ok (.iload_n 1, 1) := by decide +kernel
theorem dX11_init_168 : decode cX11_init 168 = .ok (.iconst 3, 1) := by decide +kernel
theorem dX11_init_169 : decode cX11_init 169 = .ok (.if_icmp .gt 27, 3) := by decide +kernel
theorem dX11_init_172 : decode cX11_init 172 = .ok (.aload_n 0, 1) := by decide +kernel
theorem dX11_init_173 : decode cX11_init 173 = .ok (.getfield 20, 3) := by decide +kernel
theorem dX11_init_176 : decode cX11_init 176 = .ok (.iload_n 1, 1) := by decide +kernel
theorem dX11_init_177 : decode cX11_init 177 = .ok (.iconst 1, 1) := by decide +kernel
theorem dX11_init_178 : decode cX11_init 178 = .ok (.invokevirtual 87, 3) := by decide +kernel
theorem dX11_init_181 : decode cX11_init 181 = .ok (.aload_n 0, 1) := by decide +kernel
theorem dX11_init_182 : decode cX11_init 182 = .ok (.getfield 24, 3) := by decide +kernel
theorem dX11_init_185 : decode cX11_init 185 = .ok (.iload_n 1, 1) := by decide +kernel
theorem dX11_init_186 : decode cX11_init 186 = .ok (.iconst 1, 1) := by decide +kernel
theorem dX11_init_187 : decode cX11_init 187 = .ok (.invokevirtual 87, 3) := by decide +kernel
theorem dX11_init_190 : decode cX11_init 190 = .ok (.iinc 1 1, 3) := by decide +kernel
theorem dX11_init_193 : decode cX11_init 193 = .ok (.goto (-26), 3) := by decide +kernel
theorem dX11_init_196 : decode cX11_init 196 = .ok (.return_, 1) := by decide +kernel
set_option maxRecDepth 20000 in
theorem ggX11_input_X11_netAt : GoodIn wsX11_input wsX11_netAt := goodIn_ca (goodIn_r _ [7, 8, 9, 10, 40, 41, 42, 43, 44, 45, 46, 47, 48, 49, 50, 51] (by decide +kernel) (by decide +kernel)) (goodIn_sub (fun _ h => List.mem_cons_of_mem _ (List.mem_append_right _ h)) (by decide +kernel))
set_option maxRecDepth 20000 in
theorem gX11_input_X11_netAt : GoodIn wsX11_input (wsV RX11 91 RX11 yX11_netAt wsX11_netAt) := goodIn_app (goodIn_of _ (by decide +kernel)) ggX11_input_X11_netAt
set_option maxRecDepth 20000 in
theorem ggX11_input_X3_isFull : GoodIn wsX11_input wsX3_isFull := goodIn_r _ [15, 16, 52, 53, 54, 55, 56, 57, 58, 59] (by decide +kernel) (by decide +kernel)
set_option maxRecDepth 20000 in
theorem gX11_input_X3_isFull : GoodIn wsX11_input (wsV RX11 95 RX3 yX3_isFull wsX3_isFull) := goodIn_app (goodIn_of _ (by decide +kernel)) ggX11_input_X3_isFull
set_option maxRecDepth 20000 in
theorem ggX11_input_X3_inputCount : GoodIn wsX11_input wsX3_inputCount := goodIn_r _ [20, 21, 52, 53, 54, 55, 56, 57, 58, 59] (by decide +kernel) (by decide +kernel)
set_option maxRecDepth 20000 in
theorem gX11_input_X3_inputCount : GoodIn wsX11_input (wsV RX11 99 RX3 yX3_inputCount wsX3_inputCount) := goodIn_app (goodIn_of _ (by decide +kernel)) ggX11_input_X3_inputCount
set_option maxRecDepth 20000 in
theorem ggX11_input_X3_addInput : GoodIn wsX11_input wsX3_addInput := goodIn_r _ [25, 21, 26, 27, 28, 14, 29, 16, 30, 31, 32, 33, 34, 35, 36, 37, 38, 39, 52, 53, 54, 55, 56, 57, 58, 59, 60] (by decide +kernel) (by decide +kernel)
set_option maxRecDepth 20000 in
theorem gX11_input_X3_addInput : GoodIn wsX11_input (wsV RX11 110 RX3 yX3_addInput wsX3_addInput) := goodIn_app (goodIn_of _ (by decide +kernel)) ggX11_input_X3_addInput
theorem dX11_input_0 : decode cX11_input 0 = .ok (.aload_n 0, 1) := by decide +kernel
theorem dX11_input_1 : decode cX11_input 1 = .ok (.iload_n 1, 1) := by decide +kernel
theorem dX11_input_2 : decode cX11_input 2 = .ok (.invokevirtual 91, 3) := by decide +kernel
theorem dX11_input_5 : decode cX11_input 5 = .ok (.astore_n 2, 1) := by decide +kernel
theorem dX11_input_6 : decode cX11_input 6 = .ok (.aload_n 2, 1) := by decide +kernel
theorem dX11_input_7 : decode cX11_input 7 = .ok (.invokevirtual 95, 3) := by decide +kernel
theorem dX11_input_10 : decode cX11_input 10 = .ok (.ifCond .ne 12, 3) := by decide +kernel
theorem dX11_input_13 : decode cX11_input 13 = .ok (.aload_n 2, 1) := by decide +kernel
theorem dX11_input_14 : decode cX11_input 14 = .ok (.invokevirtual 99, 3) := by decide +kernel
theorem dX11_input_17 : decode cX11_input 17 = .ok (.bipush 30, 2) := by decide +kernel
theorem dX11_input_19 : decode cX11_input 19 = .ok (.if_icmp .lt 13, 3) := by decide +kernel
theorem dX11_input_22 : decode cX11_input 22 = .ok (.new 103, 3) := by decide +kernel
theorem dX11_input_25 : decode cX11_input 25 = .ok (.dup, 1) := by decide +kernel
theorem dX11_input_26 : decode cX11_input 26 = .ok (.ldc 105, 2) := by decide +kernel
theorem dX11_input_28 : decode cX11_input 28 = .ok (.invokespecial 107, 3) := by decide +kernel
theorem dX11_input_31 : decode cX11_input 31 = .ok (.athrow, 1) := by decide +kernel
theorem dX11_input_32 : decode cX11_input 32 = .ok (.aload_n 2, 1) := by decide +kernel
theorem dX11_input_33 : decode cX11_input 33 = .ok (.invokevirtual 110, 3) := by decide +kernel
theorem dX11_input_36 : decode cX11_input 36 = .ok (.ireturn, 1) := by decide +kernel
set_option maxRecDepth 20000 in
theorem ggX11_gate_X11_netAt : GoodIn wsX11_gate wsX11_netAt := goodIn_ca (goodIn_r _ [7, 8, 9, 10, 45, 46, 47, 48, 49, 50, 51, 52, 53, 54, 55, 56] (by decide +kernel) (by decide +kernel)) (goodIn_sub (fun _ h => List.mem_cons_of_mem _ (List.mem_append_right _ h)) (by decide +kernel))
set_option maxRecDepth 20000 in
theorem gX11_gate_X11_netAt : GoodIn wsX11_gate (wsV RX11 91 RX11 yX11_netAt wsX11_netAt) := goodIn_app (goodIn_of _ (by decide +kernel)) ggX11_gate_X11_netAt
set_option maxRecDepth 20000 in
theorem ggX11_gate_X11_needKind : GoodIn wsX11_gate wsX11_needKind := goodIn_ca (goodIn_r _ [13, 8, 9] (by decide +kernel) (by decide +kernel)) (goodIn_sub (fun _ h => List.mem_cons_of_mem _ (List.mem_append_right _ h)) (by decide +kernel))
set_option maxRecDepth 20000 in
theorem gX11_gate_X11_needKind : GoodIn wsX11_gate (va_wsS RX11 113 yX11_needKind wsX11_needKind) := goodIn_app (goodIn_of _ (by decide +kernel)) ggX11_gate_X11_needKind
set_option maxRecDepth 20000 in
theorem ggX11_gate_X11_needGate : GoodIn wsX11_gate wsX11_needGate := goodIn_ca (goodIn_r _ [16, 8, 9, 17, 18, 19, 20, 21, 22, 57, 58, 59, 60, 61, 62, 63, 64] (by decide +kernel) (by decide +kernel)) (goodIn_sub (fun _ h => List.mem_cons_of_mem _ (List.mem_append_right _ h)) (by decide +kernel))
set_option maxRecDepth 20000 in
theorem gX11_gate_X11_needGate : GoodIn wsX11_gate (va_wsS RX11 116 yX11_needGate wsX11_needGate) := goodIn_app (goodIn_of _ (by decide +kernel)) ggX11_gate_X11_needGate
set_option maxRecDepth 20000 in
theorem ggX11_gate_X3_isFull : GoodIn wsX11_gate wsX3_isFull := goodIn_r _ [26, 22, 57, 58, 59, 60, 61, 62, 63, 64] (by decide +kernel) (by decide +kernel)
set_option maxRecDepth 20000 in
theorem gX11_gate_X3_isFull : GoodIn wsX11_gate (wsV RX11 95 RX3 yX3_isFull wsX3_isFull) := goodIn_app (goodIn_of _ (by decide +kernel)) ggX11_gate_X3_isFull
set_option maxRecDepth 20000 in
theorem ggX11_gate_X3_addJoined : GoodIn wsX11_gate wsX3_addJoined := goodIn_r _ [30, 31, 32, 33, 20, 34, 22, 35, 36, 37, 38, 39, 40, 41, 42, 43, 44, 57, 58, 59, 60, 61, 62, 63, 64, 65] (by decide +kernel) (by decide +kernel)
set_option maxRecDepth 20000 in
theorem gX11_gate_X3_addJoined : GoodIn wsX11_gate (wsV RX11 122 RX3 yX3_addJoined wsX3_addJoined) := goodIn_app (goodIn_of _ (by decide +kernel)) ggX11_gate_X3_addJoined
theorem dX11_gate_0 : decode cX11_gate 0 = .ok (.aload_n 0, 1) := by decide +kernel
theorem dX11_gate_1 : decode cX11_gate 1 = .ok (.iload_n 1, 1) := by decide +kernel
theorem dX11_gate_2 : decode cX11_gate 2 = .ok (.invokevirtual 91, 3) := by decide +kernel
theorem dX11_gate_5 : decode cX11_gate 5 = .ok (.astore 5, 2) := by decide +kernel
theorem dX11_gate_7 : decode cX11_gate 7 = .ok (.iload_n 2, 1) := by decide +kernel
theorem dX11_gate_8 : decode cX11_gate 8 = .ok (.invokestatic 113, 3) := by decide +kernel
theorem dX11_gate_11 : decode cX11_gate 11 = .ok (.aload 5, 2) := by decide +kernel
theorem dX11_gate_13 : decode cX11_gate 13 = .ok (.iload_n 3, 1) := by decide +kernel
theorem dX11_gate_14 : decode cX11_gate 14 = .ok (.invokestatic 116, 3) := by decide +kernel
theorem dX11_gate_17 : decode cX11_gate 17 = .ok (.iload_n 2, 1) := by decide +kernel
theorem dX11_gate_18 : decode cX11_gate 18 = .ok (.iconst 3, 1) := by decide +kernel
theorem dX11_gate_19 : decode cX11_gate 19 = .ok (.if_icmp .eq 10, 3) := by decide +kernel
theorem dX11_gate_22 : decode cX11_gate 22 = .ok (.aload 5, 2) := by decide +kernel
theorem dX11_gate_24 : decode cX11_gate 24 = .ok (.iload 4, 2) := by decide +kernel
theorem dX11_gate_26 : decode cX11_gate 26 = .ok (.invokestatic 116, 3) := by decide +kernel
theorem dX11_gate_29 : decode cX11_gate 29 = .ok (.aload 5, 2) := by decide +kernel
theorem dX11_gate_31 : decode cX11_gate 31 = .ok (.invokevirtual 95, 3) := by decide +kernel
theorem dX11_gate_34 : decode cX11_gate 34 = .ok (.ifCond .eq 13, 3) := by decide +kernel
theorem dX11_gate_37 : decode cX11_gate 37 = .ok (.new 103, 3) := by decide +kernel
theorem dX11_gate_40 : decode cX11_gate 40 = .ok (.dup, 1) := by decide +kernel
theorem dX11_gate_41 : decode cX11_gate 41 = .ok (.ldc 120, 2) := by decide +kernel
theorem dX11_gate_43 : decode cX11_gate 43 = .ok (.invokespecial 107, 3) := by decide +kernel
theorem dX11_gate_46 : decode cX11_gate 46 = .ok (.athrow, 1) := by decide +kernel
theorem dX11_gate_47 : decode cX11_gate 47 = .ok (.aload 5, 2) := by decide +kernel
theorem dX11_gate_49 : decode cX11_gate 49 = .ok (.iload_n 2, 1) := by decide +kernel
theorem dX11_gate_50 : decode cX11_gate 50 = .ok (.iload_n 3, 1) := by decide +kernel
theorem dX11_gate_51 : decode cX11_gate 51 = .ok (.iload 4, 2) := by decide +kernel
theorem dX11_gate_53 : decode cX11_gate 53 = .ok (.invokevirtual 122, 3) := by decide +kernel
theorem dX11_gate_56 : decode cX11_gate 56 = .ok (.ireturn, 1) := by decide +kernel
set_option maxRecDepth 20000 in
theorem ggX11_out_X11_netAt : GoodIn wsX11_out wsX11_netAt := goodIn_ca (goodIn_r _ [7, 8, 9, 10, 36, 37, 38, 39, 40, 41, 42, 43, 44, 45, 46, 47] (by decide +kernel) (by decide +kernel)) (goodIn_sub (fun _ h => List.mem_cons_of_mem _ (List.mem_append_right _ h)) (by decide +kernel))
set_option maxRecDepth 20000 in
theorem gX11_out_X11_netAt : GoodIn wsX11_out (wsV RX11 91 RX11 yX11_netAt wsX11_netAt) := goodIn_app (goodIn_of _ (by decide +kernel)) ggX11_out_X11_netAt
set_option maxRecDepth 20000 in
theorem ggX11_out_X11_needGate : GoodIn wsX11_out wsX11_needGate := goodIn_ca (goodIn_r _ [13, 8, 9, 14, 15, 16, 17, 18, 19, 48, 49, 50, 51, 52, 53, 54, 55] (by decide +kernel) (by decide +kernel)) (goodIn_sub (fun _ h => List.mem_cons_of_mem _ (List.mem_append_right _ h)) (by decide +kernel))
set_option maxRecDepth 20000 in
theorem gX11_out_X11_needGate : GoodIn wsX11_out (va_wsS RX11 116 yX11_needGate wsX11_needGate) := goodIn_app (goodIn_of _ (by decide +kernel)) ggX11_out_X11_needGate
set_option maxRecDepth 20000 in
theorem ggX11_out_X3_outCount : GoodIn wsX11_out wsX3_outCount := goodIn_r _ [23, 24, 48, 49, 50, 51, 52, 53, 54, 55] (by decide +kernel) (by decide +kernel)
set_option maxRecDepth 20000 in
theorem gX11_out_X3_outCount : GoodIn wsX11_out (wsV RX11 126 RX3 yX3_outCount wsX3_outCount) := goodIn_app (goodIn_of _ (by decide +kernel)) ggX11_out_X3_outCount
set_option maxRecDepth 20000 in
theorem ggX11_out_X3_addOut : GoodIn wsX11_out wsX3_addOut := goodIn_r _ [28, 24, 29, 30, 31, 32, 33, 34, 35, 48, 49, 50, 51, 52, 53, 54, 55, 56] (by decide +kernel) (by decide +kernel)
set_option maxRecDepth 20000 in
theorem gX11_out_X3_addOut : GoodIn wsX11_out (wsV RX11 131 RX3 yX3_addOut wsX3_addOut) := goodIn_app (goodIn_of _ (by decide +kernel)) ggX11_out_X3_addOut
theorem dX11_out_0 : decode cX11_out 0 = .ok (.aload_n 0, 1) := by decide +kernel
theorem dX11_out_1 : decode cX11_out 1 = .ok (.iload_n 1, 1) := by decide +kernel
theorem dX11_out_2 : decode cX11_out 2 = .ok (.invokevirtual 91, 3) := by decide +kernel
theorem dX11_out_5 : decode cX11_out 5 = .ok (.astore_n 3, 1) := by decide +kernel
theorem dX11_out_6 : decode cX11_out 6 = .ok (.aload_n 3, 1) := by decide +kernel
theorem dX11_out_7 : decode cX11_out 7 = .ok (.iload_n 2, 1) := by decide +kernel
theorem dX11_out_8 : decode cX11_out 8 = .ok (.invokestatic 116, 3) := by decide +kernel
theorem dX11_out_11 : decode cX11_out 11 = .ok (.aload_n 3, 1) := by decide +kernel
theorem dX11_out_12 : decode cX11_out 12 = .ok (.invokevirtual 126, 3) := by decide +kernel
theorem dX11_out_15 : decode cX11_out 15 = .ok (.bipush 16, 2) := by decide +kernel
theorem dX11_out_17 : decode cX11_out 17 = .ok (.if_icmp .lt 13, 3) := by decide +kernel
theorem dX11_out_20 : decode cX11_out 20 = .ok (.new 103, 3) := by decide +kernel
theorem dX11_out_23 : decode cX11_out 23 = .ok (.dup, 1) := by decide +kernel
theorem dX11_out_24 : decode cX11_out 24 = .ok (.ldc 129, 2) := by decide +kernel
theorem dX11_out_26 : decode cX11_out 26 = .ok (.invokespecial 107, 3) := by decide +kernel
theorem dX11_out_29 : decode cX11_out 29 = .ok (.athrow, 1) := by decide +kernel
theorem dX11_out_30 : decode cX11_out 30 = .ok (.aload_n 3, 1) := by decide +kernel
theorem dX11_out_31 : decode cX11_out 31 = .ok (.iload_n 2, 1) := by decide +kernel
theorem dX11_out_32 : decode cX11_out 32 = .ok (.invokevirtual 131, 3) := by decide +kernel
theorem dX11_out_35 : decode cX11_out 35 = .ok (.ireturn, 1) := by decide +kernel
set_option maxRecDepth 20000 in
theorem ggX11_adder_X11_netAt : GoodIn wsX11_adder wsX11_netAt := goodIn_ca (goodIn_r _ [6, 7, 8, 9, 100, 101, 102, 103, 104, 105, 106, 107, 108, 109, 110, 111] (by decide +kernel) (by decide +kernel)) (goodIn_sub (fun _ h => List.mem_cons_of_mem _ (List.mem_append_left _ (List.mem_append_left _ (List.mem_append_right _ h)))) (by decide +kernel))
set_option maxRecDepth 20000 in
theorem gX11_adder_X11_netAt : GoodIn wsX11_adder (wsV RX11 91 RX11 yX11_netAt wsX11_netAt) := goodIn_app (goodIn_of _ (by decide +kernel)) ggX11_adder_X11_netAt
set_option maxRecDepth 20000 in
theorem ggX11_adder_X11_needRange : GoodIn wsX11_adder wsX11_needRange := goodIn_ca (goodIn_r _ [12, 13, 14] (by decide +kernel) (by decide +kernel)) (goodIn_sub (fun _ h => List.mem_cons_of_mem _ (List.mem_append_left _ (List.mem_append_right _ h))) (by decide +kernel))
set_option maxRecDepth 20000 in
theorem gX11_adder_X11_needRange : GoodIn wsX11_adder (va_wsS RX11 135 yX11_needRange wsX11_needRange) := goodIn_app (goodIn_of _ (by decide +kernel)) ggX11_adder_X11_needRange
set_option maxRecDepth 20000 in
theorem ggX11_adder_X11_needNoGates : GoodIn wsX11_adder wsX11_needNoGates := goodIn_ca (goodIn_r _ [17, 18, 19, 20, 21, 22, 23, 24, 25, 112, 113, 114, 115, 116, 117, 118, 119] (by decide +kernel) (by decide +kernel)) (goodIn_sub (fun _ h => List.mem_cons_of_mem _ (List.mem_append_right _ h)) (by decide +kernel))
set_option maxRecDepth 20000 in
theorem gX11_adder_X11_needNoGates : GoodIn wsX11_adder (va_wsS RX11 139 yX11_needNoGates wsX11_needNoGates) := goodIn_app (goodIn_of _ (by decide +kernel)) ggX11_adder_X11_needNoGates
set_option maxRecDepth 20000 in
theorem ggX11_adder_X2_makeRipple : GoodIn wsX11_adder wsX2_makeRipple := goodIn_r _ [30, 31, 32, 33, 34, 35, 29, 36, 37, 38, 39, 23, 40, 41, 42, 43, 44, 45, 25, 46, 47, 48, 49, 50, 51, 52, 53, 54, 55, 56, 57, 58, 59, 60, 61, 62, 63, 64, 65, 66, 67, 68, 69, 70, 71, 72, 73, 120, 121, 122, 123, 124, 125, 126, 127, 128, 129, 112, 113, 114, 115, 116, 117, 118, 119, 130] (by decide +kernel) (by decide +kernel)
set_option maxRecDepth 20000 in
theorem gX11_adder_X2_makeRipple : GoodIn wsX11_adder (wsV RX11 143 RX2 yX2_makeRipple wsX2_makeRipple) := goodIn_app (goodIn_of _ (by decide +kernel)) ggX11_adder_X2_makeRipple
set_option maxRecDepth 20000 in
theorem ggX11_adder_X2_makeJoining : GoodIn wsX11_adder wsX2_makeJoining := goodIn_r _ [77, 78, 31, 79, 80, 32, 33, 34, 35, 29, 36, 37, 38, 39, 23, 40, 41, 42, 43, 44, 45, 25, 46, 47, 48, 49, 50, 51, 52, 53, 54, 55, 56, 57, 58, 59, 60, 61, 62, 63, 81, 82, 83, 84, 85, 86, 87, 88, 89, 90, 91, 92, 93, 94, 95, 96, 97, 98, 99, 64, 65, 66, 67, 68, 69, 120, 121, 122, 123, 124, 125, 126, 127, 128, 129, 112, 113, 114, 115, 116, 117, 118, 119, 130] (by decide +kernel) (by decide +kernel)
set_option maxRecDepth 20000 in
theorem gX11_adder_X2_makeJoining : GoodIn wsX11_adder (wsV RX11 146 RX2 yX2_makeJoining wsX2_makeJoining) := goodIn_app (goodIn_of _ (by decide +kernel)) ggX11_adder_X2_makeJoining
set_option maxRecDepth 20000 in
theorem ggX11_adder_X3_size : GoodIn wsX11_adder wsX3_size := goodIn_r _ [24, 25, 112, 113, 114, 115, 116, 117, 118, 119] (by decide +kernel) (by decide +kernel)
set_option maxRecDepth 20000 in
theorem gX11_adder_X3_size : GoodIn wsX11_adder (wsV RX11 150 RX3 yX3_size wsX3_size) := goodIn_app (goodIn_of _ (by decide +kernel)) ggX11_adder_X3_size
theorem dX11_adder_0 : decode cX11_adder 0 = .ok (.aload_n 0, 1) := by decide +kernel
theorem dX11_adder_1 : decode cX11_adder 1 = .ok (.iload_n 1, 1) := by decide +kernel
theorem dX11_adder_2 : decode cX11_adder 2 = .ok (.invokevirtual 91, 3) := by decide +kernel
theorem dX11_adder_5 : decode cX11_adder 5 = .ok (.astore 4, 2) := by decide +kernel
theorem dX11_adder_7 : decode cX11_adder 7 = .ok (.iload_n 2, 1) := by decide +kernel
theorem dX11_adder_8 : decode cX11_adder 8 = .ok (.iconst 0, 1) := by decide +kernel
theorem dX11_adder_9 : decode cX11_adder 9 = .ok (.iconst 2, 1) := by decide +kernel
theorem dX11_adder_10 : decode cX11_adder 10 = .ok (.invokestatic 135, 3) := by decide +kernel
theorem dX11_adder_13 : decode cX11_adder 13 = .ok (.iload_n 3, 1) := by decide +kernel
theorem dX11_adder_14 : decode cX11_adder 14 = .ok (.iconst 1, 1) := by decide +kernel
theorem dX11_adder_15 : decode cX11_adder 15 = .ok (.bipush 6, 2) := by decide +kernel
theorem dX11_adder_17 : decode cX11_adder 17 = .ok (.invokestatic 135, 3) := by decide +kernel
theorem dX11_adder_20 : decode cX11_adder 20 = .ok (.aload 4, 2) := by decide +kernel
theorem dX11_adder_22 : decode cX11_adder 22 = .ok (.invokestatic 139, 3) := by decide +kernel
theorem dX11_adder_25 : decode cX11_adder 25 = .ok (.iload_n 2, 1) := by decide +kernel
theorem dX11_adder_26 : decode cX11_adder 26 = .ok (.ifCond .ne 16, 3) := by decide +kernel
theorem dX11_adder_29 : decode cX11_adder 29 = .ok (.aload_n 0, 1) := by decide +kernel
theorem dX11_adder_30 : decode cX11_adder 30 = .ok (.getfield 30, 3) := by decide +kernel
theorem dX11_adder_33 : decode cX11_adder 33 = .ok (.aload 4, 2) := by decide +kernel
theorem dX11_adder_35 : decode cX11_adder 35 = .ok (.iload_n 3, 1) := by decide +kernel
theorem dX11_adder_36 : decode cX11_adder 36 = .ok (.invokevirtual 143, 3) := by decide +kernel
theorem dX11_adder_39 : decode cX11_adder 39 = .ok (.goto 23, 3) := by decide +kernel
theorem dX11_adder_42 : decode cX11_adder 42 = .ok (.aload_n 0, 1) := by decide +kernel
theorem dX11_adder_43 : decode cX11_adder 43 = .ok (.getfield 30, 3) := by decide +kernel
theorem dX11_adder_46 : decode cX11_adder 46 = .ok (.aload 4, 2) := by decide +kernel
theorem dX11_adder_48 : decode cX11_adder 48 = .ok (.iload_n 2, 1) := by decide +kernel
theorem dX11_adder_49 : decode cX11_adder 49 = .ok (.iconst 1, 1) := by decide +kernel
theorem dX11_adder_50 : decode cX11_adder 50 = .ok (.if_icmp .ne 7, 3) := by decide +kernel
theorem dX11_adder_53 : decode cX11_adder 53 = .ok (.iconst 1, 1) := by decide +kernel
theorem dX11_adder_54 : decode cX11_adder 54 = .ok (.goto 4, 3) := by decide +kernel
theorem dX11_adder_57 : decode cX11_adder 57 = .ok (.iconst 0, 1) := by decide +kernel
theorem dX11_adder_58 : decode cX11_adder 58 = .ok (.iload_n 3, 1) := by decide +kernel
theorem dX11_adder_59 : decode cX11_adder 59 = .ok (.invokevirtual 146, 3) := by decide +kernel
theorem dX11_adder_62 : decode cX11_adder 62 = .ok (.aload 4, 2) := by decide +kernel
theorem dX11_adder_64 : decode cX11_adder 64 = .ok (.invokevirtual 150, 3) := by decide +kernel
theorem dX11_adder_67 : decode cX11_adder 67 = .ok (.ireturn, 1) := by decide +kernel
set_option maxRecDepth 20000 in
theorem ggX11_multiplier_X11_netAt : GoodIn wsX11_multiplier wsX11_netAt := goodIn_ca (goodIn_r _ [6, 7, 8, 9, 90, 91, 92, 93, 94, 95, 96, 97, 98, 99, 100, 101] (by decide +kernel) (by decide +kernel)) (goodIn_sub (fun _ h => List.mem_cons_of_mem _ (List.mem_append_left _ (List.mem_append_left _ (List.mem_append_right _ h)))) (by decide +kernel))
set_option maxRecDepth 20000 in
theorem gX11_multiplier_X11_netAt : GoodIn wsX11_multiplier (wsV RX11 91 RX11 yX11_netAt wsX11_netAt) := goodIn_app (goodIn_of _ (by decide +kernel)) ggX11_multiplier_X11_netAt
set_option maxRecDepth 20000 in
theorem ggX11_multiplier_X11_needRange : GoodIn wsX11_multiplier wsX11_needRange := goodIn_ca (goodIn_r _ [12, 13, 14] (by decide +kernel) (by decide +kernel)) (goodIn_sub (fun _ h => List.mem_cons_of_mem _ (List.mem_append_left _ (List.mem_append_right _ h))) (by decide +kernel))
set_option maxRecDepth 20000 in
theorem gX11_multiplier_X11_needRange : GoodIn wsX11_multiplier (va_wsS RX11 135 yX11_needRange wsX11_needRange) := goodIn_app (goodIn_of _ (by decide +kernel)) ggX11_multiplier_X11_needRange
set_option maxRecDepth 20000 in
theorem ggX11_multiplier_X11_needNoGates : GoodIn wsX11_multiplier wsX11_needNoGates := goodIn_ca (goodIn_r _ [17, 18, 19, 20, 21, 22, 23, 24, 25, 102, 103, 104, 105, 106, 107, 108, 109] (by decide +kernel) (by decide +kernel)) (goodIn_sub (fun _ h => List.mem_cons_of_mem _ (List.mem_append_right _ h)) (by decide +kernel))
set_option maxRecDepth 20000 in
theorem gX11_multiplier_X11_needNoGates : GoodIn wsX11_multiplier (va_wsS RX11 139 yX11_needNoGates wsX11_needNoGates) := goodIn_app (goodIn_of _ (by decide +kernel)) ggX11_multiplier_X11_needNoGates
set_option maxRecDepth 20000 in
theorem ggX11_multiplier_X2_makeProduct : GoodIn wsX11_multiplier wsX2_makeProduct := goodIn_r _ [30, 31, 32, 33, 34, 35, 36, 29, 37, 38, 39, 40, 23, 41, 42, 43, 44, 45, 46, 25, 47, 48, 49, 50, 51, 52, 53, 54, 55, 56, 57, 58, 59, 60, 61, 62, 63, 64, 65, 66, 67, 68, 69, 70, 71, 72, 73, 74, 75, 76, 77, 78, 79, 80, 81, 82, 83, 84, 85, 86, 87, 88, 89, 110, 111, 112, 113, 114, 115, 116, 117, 118, 119, 102, 103, 104, 105, 106, 107, 108, 109, 120] (by decide +kernel) (by decide +kernel)
set_option maxRecDepth 20000 in
theorem gX11_multiplier_X2_makeProduct : GoodIn wsX11_multiplier (wsV RX11 153 RX2 yX2_makeProduct wsX2_makeProduct) := goodIn_app (goodIn_of _ (by decide +kernel)) ggX11_multiplier_X2_makeProduct
set_option maxRecDepth 20000 in
theorem ggX11_multiplier_X3_size : GoodIn wsX11_multiplier wsX3_size := goodIn_r _ [24, 25, 102, 103, 104, 105, 106, 107, 108, 109] (by decide +kernel) (by decide +kernel)
set_option maxRecDepth 20000 in
theorem gX11_multiplier_X3_size : GoodIn wsX11_multiplier (wsV RX11 150 RX3 yX3_size wsX3_size) := goodIn_app (goodIn_of _ (by decide +kernel)) ggX11_multiplier_X3_size
theorem dX11_multiplier_0 : decode cX11_multiplier 0 = .ok (.aload_n 0, 1) := by decide +kernel
theorem dX11_multiplier_1 : decode cX11_multiplier 1 = .ok (.iload_n 1, 1) := by decide +kernel
theorem dX11_multiplier_2 : decode cX11_multiplier 2 = .ok (.invokevirtual 91, 3) := by decide +kernel
theorem dX11_multiplier_5 : decode cX11_multiplier 5 = .ok (.astore_n 3, 1) := by decide +kernel
theorem dX11_multiplier_6 : decode cX11_multiplier 6 = .ok (.iload_n 2, 1) := by decide +kernel
theorem dX11_multiplier_7 : decode cX11_multiplier 7 = .ok (.iconst 1, 1) := by decide +kernel
theorem dX11_multiplier_8 : decode cX11_multiplier 8 = .ok (.iconst 4, 1) := by decide +kernel
theorem dX11_multiplier_9 : decode cX11_multiplier 9 = .ok (.invokestatic 135, 3) := by decide +kernel
theorem dX11_multiplier_12 : decode cX11_multiplier 12 = .ok (.aload_n 3, 1) := by decide +kernel
theorem dX11_multiplier_13 : decode cX11_multiplier 13 = .ok (.invokestatic 139, 3) := by decide +kernel
theorem dX11_multiplier_16 : decode cX11_multiplier 16 = .ok (.aload_n 0, 1) := by decide +kernel
theorem dX11_multiplier_17 : decode cX11_multiplier 17 = .ok (.getfield 30, 3) := by decide +kernel
theorem dX11_multiplier_20 : decode cX11_multiplier 20 = .ok (.aload_n 3, 1) := by decide +kernel
theorem dX11_multiplier_21 : decode cX11_multiplier 21 = .ok (.iload_n 2, 1) := by decide +kernel
theorem dX11_multiplier_22 : decode cX11_multiplier 22 = .ok (.invokevirtual 153, 3) := by decide +kernel
theorem dX11_multiplier_25 : decode cX11_multiplier 25 = .ok (.aload_n 3, 1) := by decide +kernel
theorem dX11_multiplier_26 : decode cX11_multiplier 26 = .ok (.invokevirtual 150, 3) := by decide +kernel
theorem dX11_multiplier_29 : decode cX11_multiplier 29 = .ok (.ireturn, 1) := by decide +kernel
set_option maxRecDepth 20000 in
theorem ggX11_clear_X11_netAt : GoodIn wsX11_clear wsX11_netAt := goodIn_ca (goodIn_r _ [5, 6, 7, 8, 21, 22, 23, 24, 25, 26, 27, 28, 29, 30, 31, 32] (by decide +kernel) (by decide +kernel)) (goodIn_sub (fun _ h => List.mem_cons_of_mem _ (List.mem_append_right _ h)) (by decide +kernel))
set_option maxRecDepth 20000 in
theorem gX11_clear_X11_netAt : GoodIn wsX11_clear (wsV RX11 91 RX11 yX11_netAt wsX11_netAt) := goodIn_app (goodIn_of _ (by decide +kernel)) ggX11_clear_X11_netAt
set_option maxRecDepth 20000 in
theorem ggX11_clear_X3_size : GoodIn wsX11_clear wsX3_size := goodIn_r _ [13, 14, 33, 34, 35, 36, 37, 38, 39, 40] (by decide +kernel) (by decide +kernel)
set_option maxRecDepth 20000 in
theorem gX11_clear_X3_size : GoodIn wsX11_clear (wsV RX11 150 RX3 yX3_size wsX3_size) := goodIn_app (goodIn_of _ (by decide +kernel)) ggX11_clear_X3_size
set_option maxRecDepth 20000 in
theorem ggX11_clear_X3_removeAll : GoodIn wsX11_clear wsX3_removeAll := goodIn_r _ [18, 14, 19, 20, 33, 34, 35, 36, 37, 38, 39, 40] (by decide +kernel) (by decide +kernel)
set_option maxRecDepth 20000 in
theorem gX11_clear_X3_removeAll : GoodIn wsX11_clear (wsV RX11 156 RX3 yX3_removeAll wsX3_removeAll) := goodIn_app (goodIn_of _ (by decide +kernel)) ggX11_clear_X3_removeAll
theorem dX11_clear_0 : decode cX11_clear 0 = .ok (.aload_n 0, 1) := by decide +kernel
theorem dX11_clear_1 : decode cX11_clear 1 = .ok (.iload_n 1, 1) := by decide +kernel
theorem dX11_clear_2 : decode cX11_clear 2 = .ok (.invokevirtual 91, 3) := by decide +kernel
theorem dX11_clear_5 : decode cX11_clear 5 = .ok (.astore_n 2, 1) := by decide +kernel
theorem dX11_clear_6 : decode cX11_clear 6 = .ok (.aload_n 2, 1) := by decide +kernel
theorem dX11_clear_7 : decode cX11_clear 7 = .ok (.invokevirtual 150, 3) := by decide +kernel
theorem dX11_clear_10 : decode cX11_clear 10 = .ok (.istore_n 3, 1) := by decide +kernel
theorem dX11_clear_11 : decode cX11_clear 11 = .ok (.aload_n 2, 1) := by decide +kernel
theorem dX11_clear_12 : decode cX11_clear 12 = .ok (.invokevirtual 156, 3) := by decide +kernel
theorem dX11_clear_15 : decode cX11_clear 15 = .ok (.iload_n 3, 1) := by decide +kernel
theorem dX11_clear_16 : decode cX11_clear 16 = .ok (.ireturn, 1) := by decide +kernel
set_option maxRecDepth 20000 in
theorem ggX11_cost_X11_needKind : GoodIn wsX11_cost wsX11_needKind := goodIn_ca (goodIn_r _ [6, 7, 8] (by decide +kernel) (by decide +kernel)) (goodIn_sub (fun _ h => List.mem_cons_of_mem _ (List.mem_append_left _ (List.mem_append_right _ h))) (by decide +kernel))
set_option maxRecDepth 20000 in
theorem gX11_cost_X11_needKind : GoodIn wsX11_cost (va_wsS RX11 113 yX11_needKind wsX11_needKind) := goodIn_app (goodIn_of _ (by decide +kernel)) ggX11_cost_X11_needKind
set_option maxRecDepth 20000 in
theorem ggX11_cost_X11_needRange : GoodIn wsX11_cost wsX11_needRange := goodIn_ca (goodIn_r _ [11, 12, 13] (by decide +kernel) (by decide +kernel)) (goodIn_sub (fun _ h => List.mem_cons_of_mem _ (List.mem_append_right _ h)) (by decide +kernel))
set_option maxRecDepth 20000 in
theorem gX11_cost_X11_needRange : GoodIn wsX11_cost (va_wsS RX11 135 yX11_needRange wsX11_needRange) := goodIn_app (goodIn_of _ (by decide +kernel)) ggX11_cost_X11_needRange
set_option maxRecDepth 20000 in
theorem ggX11_cost_X4_at : GoodIn wsX11_cost wsX4_at := goodIn_r _ [18, 19, 36] (by decide +kernel) (by decide +kernel)
set_option maxRecDepth 20000 in
theorem gX11_cost_X4_at : GoodIn wsX11_cost (wsV RX11 159 RX4 yX4_at wsX4_at) := goodIn_app (goodIn_of _ (by decide +kernel)) ggX11_cost_X4_at
set_option maxRecDepth 20000 in
theorem ggX11_cost_X4_put : GoodIn wsX11_cost wsX4_put := goodIn_r _ [23, 19, 36] (by decide +kernel) (by decide +kernel)
set_option maxRecDepth 20000 in
theorem gX11_cost_X4_put : GoodIn wsX11_cost (wsV RX11 87 RX4 yX4_put wsX4_put) := goodIn_app (goodIn_of _ (by decide +kernel)) ggX11_cost_X4_put
theorem dX11_cost_0 : decode cX11_cost 0 = .ok (.iload_n 1, 1) := by decide +kernel
theorem dX11_cost_1 : decode cX11_cost 1 = .ok (.invokestatic 113, 3) := by decide +kernel
theorem dX11_cost_4 : decode cX11_cost 4 = .ok (.iload_n 2, 1) := by decide +kernel
theorem dX11_cost_5 : decode cX11_cost 5 = .ok (.iconst 1, 1) := by decide +kernel
theorem dX11_cost_6 : decode cX11_cost 6 = .ok (.bipush 9, 2) := by decide +kernel
theorem dX11_cost_8 : decode cX11_cost 8 = .ok (.invokestatic 135, 3) := by decide +kernel
theorem dX11_cost_11 : decode cX11_cost 11 = .ok (.iload_n 3, 1) := by decide +kernel
theorem dX11_cost_12 : decode cX11_cost 12 = .ok (.iconst 0, 1) := by decide +kernel
theorem dX11_cost_13 : decode cX11_cost 13 = .ok (.bipush 99, 2) := by decide +kernel
theorem dX11_cost_15 : decode cX11_cost 15 = .ok (.invokestatic 135, 3) := by decide +kernel
theorem dX11_cost_18 : decode cX11_cost 18 = .ok (.aload_n 0, 1) := by decide +kernel
theorem dX11_cost_19 : decode cX11_cost 19 = .ok (.getfield 20, 3) := by decide +kernel
theorem dX11_cost_22 : decode cX11_cost 22 = .ok (.iload_n 1, 1) := by decide +kernel
theorem dX11_cost_23 : decode cX11_cost 23 = .ok (.invokevirtual 159, 3) := by decide +kernel
theorem dX11_cost_26 : decode cX11_cost 26 = .ok (.istore 4, 2) := by decide +kernel
theorem dX11_cost_28 : decode cX11_cost 28 = .ok (.aload_n 0, 1) := by decide +kernel
theorem dX11_cost_29 : decode cX11_cost 29 = .ok (.getfield 20, 3) := by decide +kernel
theorem dX11_cost_32 : decode cX11_cost 32 = .ok (.iload_n 1, 1) := by decide +kernel
theorem dX11_cost_33 : decode cX11_cost 33 = .ok (.iload_n 2, 1) := by decide +kernel
theorem dX11_cost_34 : decode cX11_cost 34 = .ok (.invokevirtual 87, 3) := by decide +kernel
theorem dX11_cost_37 : decode cX11_cost 37 = .ok (.aload_n 0, 1) := by decide +kernel
theorem dX11_cost_38 : decode cX11_cost 38 = .ok (.getfield 24, 3) := by decide +kernel
theorem dX11_cost_41 : decode cX11_cost 41 = .ok (.iload_n 1, 1) := by decide +kernel
theorem dX11_cost_42 : decode cX11_cost 42 = .ok (.iload_n 3, 1) := by decide +kernel
theorem dX11_cost_43 : decode cX11_cost 43 = .ok (.invokevirtual 87, 3) := by decide +kernel
theorem dX11_cost_46 : decode cX11_cost 46 = .ok (.iload 4, 2) := by decide +kernel
theorem dX11_cost_48 : decode cX11_cost 48 = .ok (.ireturn, 1) := by decide +kernel
set_option maxRecDepth 20000 in
theorem ggX11_stick_X11_netAt : GoodIn wsX11_stick wsX11_netAt := goodIn_ca (goodIn_r _ [5, 6, 7, 8, 42, 43, 44, 45, 46, 47, 48, 49, 50, 51, 52, 53] (by decide +kernel) (by decide +kernel)) (goodIn_sub (fun _ h => List.mem_cons_of_mem _ (List.mem_append_left _ (List.mem_append_right _ h))) (by decide +kernel))
set_option maxRecDepth 20000 in
theorem gX11_stick_X11_netAt : GoodIn wsX11_stick (wsV RX11 91 RX11 yX11_netAt wsX11_netAt) := goodIn_app (goodIn_of _ (by decide +kernel)) ggX11_stick_X11_netAt
set_option maxRecDepth 20000 in
theorem ggX11_stick_X11_needGate : GoodIn wsX11_stick wsX11_needGate := goodIn_ca (goodIn_r _ [11, 6, 7, 12, 13, 14, 15, 16, 17, 54, 55, 56, 57, 58, 59, 60, 61] (by decide +kernel) (by decide +kernel)) (goodIn_sub (fun _ h => List.mem_cons_of_mem _ (List.mem_append_left _ (List.mem_append_right _ h))) (by decide +kernel))
set_option maxRecDepth 20000 in
theorem gX11_stick_X11_needGate : GoodIn wsX11_stick (va_wsS RX11 116 yX11_needGate wsX11_needGate) := goodIn_app (goodIn_of _ (by decide +kernel)) ggX11_stick_X11_needGate
set_option maxRecDepth 20000 in
theorem ggX11_stick_X11_needRange : GoodIn wsX11_stick wsX11_needRange := goodIn_ca (goodIn_r _ [20, 21, 22] (by decide +kernel) (by decide +kernel)) (goodIn_sub (fun _ h => List.mem_cons_of_mem _ (List.mem_append_right _ h)) (by decide +kernel))
set_option maxRecDepth 20000 in
theorem gX11_stick_X11_needRange : GoodIn wsX11_stick (va_wsS RX11 135 yX11_needRange wsX11_needRange) := goodIn_app (goodIn_of _ (by decide +kernel)) ggX11_stick_X11_needRange
set_option maxRecDepth 20000 in
theorem ggX11_stick_X3_stuckBitOf : GoodIn wsX11_stick wsX3_stuckBitOf := goodIn_r _ [26, 27, 28, 29, 30, 31, 32, 33, 54, 55, 56, 57, 58, 59, 60, 61, 62] (by decide +kernel) (by decide +kernel)
set_option maxRecDepth 20000 in
theorem gX11_stick_X3_stuckBitOf : GoodIn wsX11_stick (wsV RX11 162 RX3 yX3_stuckBitOf wsX3_stuckBitOf) := goodIn_app (goodIn_of _ (by decide +kernel)) ggX11_stick_X3_stuckBitOf
set_option maxRecDepth 20000 in
theorem ggX11_stick_X3_setStuckBit : GoodIn wsX11_stick wsX3_setStuckBit := goodIn_r _ [37, 27, 38, 39, 40, 31, 41, 33, 54, 55, 56, 57, 58, 59, 60, 61, 62] (by decide +kernel) (by decide +kernel)
set_option maxRecDepth 20000 in
theorem gX11_stick_X3_setStuckBit : GoodIn wsX11_stick (wsV RX11 165 RX3 yX3_setStuckBit wsX3_setStuckBit) := goodIn_app (goodIn_of _ (by decide +kernel)) ggX11_stick_X3_setStuckBit
theorem dX11_stick_0 : decode cX11_stick 0 = .ok (.aload_n 0, 1) := by decide +kernel
theorem dX11_stick_1 : decode cX11_stick 1 = .ok (.iload_n 1, 1) := by decide +kernel
theorem dX11_stick_2 : decode cX11_stick 2 = .ok (.invokevirtual 91, 3) := by decide +kernel
theorem dX11_stick_5 : decode cX11_stick 5 = .ok (.astore 4, 2) := by decide +kernel
theorem dX11_stick_7 : decode cX11_stick 7 = .ok (.aload 4, 2) := by decide +kernel
theorem dX11_stick_9 : decode cX11_stick 9 = .ok (.iload_n 2, 1) := by decide +kernel
theorem dX11_stick_10 : decode cX11_stick 10 = .ok (.invokestatic 116, 3) := by decide +kernel
theorem dX11_stick_13 : decode cX11_stick 13 = .ok (.iload_n 3, 1) := by decide +kernel
theorem dX11_stick_14 : decode cX11_stick 14 = .ok (.iconst (-1), 1) := by decide +kernel
theorem dX11_stick_15 : decode cX11_stick 15 = .ok (.iconst 1, 1) := by decide +kernel
theorem dX11_stick_16 : decode cX11_stick 16 = .ok (.invokestatic 135, 3) := by decide +kernel
theorem dX11_stick_19 : decode cX11_stick 19 = .ok (.aload 4, 2) := by decide +kernel
theorem dX11_stick_21 : decode cX11_stick 21 = .ok (.iload_n 2, 1) := by decide +kernel
theorem dX11_stick_22 : decode cX11_stick 22 = .ok (.invokevirtual 162, 3) := by decide +kernel
theorem dX11_stick_25 : decode cX11_stick 25 = .ok (.istore 5, 2) := by decide +kernel
theorem dX11_stick_27 : decode cX11_stick 27 = .ok (.aload 4, 2) := by decide +kernel
theorem dX11_stick_29 : decode cX11_stick 29 = .ok (.iload_n 2, 1) := by decide +kernel
theorem dX11_stick_30 : decode cX11_stick 30 = .ok (.iload_n 3, 1) := by decide +kernel
theorem dX11_stick_31 : decode cX11_stick 31 = .ok (.invokevirtual 165, 3) := by decide +kernel
theorem dX11_stick_34 : decode cX11_stick 34 = .ok (.iload 5, 2) := by decide +kernel
theorem dX11_stick_36 : decode cX11_stick 36 = .ok (.ireturn, 1) := by decide +kernel
set_option maxRecDepth 20000 in
theorem ggX11_bit_X11_netAt : GoodIn wsX11_bit wsX11_netAt := goodIn_ca (goodIn_r _ [7, 8, 9, 10, 105, 106, 107, 108, 109, 110, 111, 112, 113, 114, 115, 116] (by decide +kernel) (by decide +kernel)) (goodIn_sub (fun _ h => List.mem_cons_of_mem _ (List.mem_append_left _ (List.mem_append_right _ h))) (by decide +kernel))
set_option maxRecDepth 20000 in
theorem gX11_bit_X11_netAt : GoodIn wsX11_bit (wsV RX11 91 RX11 yX11_netAt wsX11_netAt) := goodIn_app (goodIn_of _ (by decide +kernel)) ggX11_bit_X11_netAt
set_option maxRecDepth 20000 in
theorem ggX11_bit_X11_needGate : GoodIn wsX11_bit wsX11_needGate := goodIn_ca (goodIn_r _ [13, 8, 9, 14, 15, 16, 17, 18, 19, 117, 118, 119, 120, 121, 122, 123, 124] (by decide +kernel) (by decide +kernel)) (goodIn_sub (fun _ h => List.mem_cons_of_mem _ (List.mem_append_left _ (List.mem_append_right _ h))) (by decide +kernel))
set_option maxRecDepth 20000 in
theorem gX11_bit_X11_needGate : GoodIn wsX11_bit (va_wsS RX11 116 yX11_needGate wsX11_needGate) := goodIn_app (goodIn_of _ (by decide +kernel)) ggX11_bit_X11_needGate
set_option maxRecDepth 20000 in
theorem ggX11_bit_X11_needRange : GoodIn wsX11_bit wsX11_needRange := goodIn_ca (goodIn_r _ [22, 23, 24] (by decide +kernel) (by decide +kernel)) (goodIn_sub (fun _ h => List.mem_cons_of_mem _ (List.mem_append_right _ h)) (by decide +kernel))
set_option maxRecDepth 20000 in
theorem gX11_bit_X11_needRange : GoodIn wsX11_bit (va_wsS RX11 135 yX11_needRange wsX11_needRange) := goodIn_app (goodIn_of _ (by decide +kernel)) ggX11_bit_X11_needRange
set_option maxRecDepth 20000 in
theorem ggX11_bit_X1_fillForOne : GoodIn wsX11_bit wsX1_fillForOne := goodIn_r _ [29, 30, 31, 32, 28, 33, 34, 35, 36, 37, 38, 17, 39, 19, 40, 41, 42, 43, 44, 45, 46, 47, 48, 49, 50, 51, 52, 53, 54, 55, 56, 57, 58, 59, 60, 61, 62, 63, 64, 65, 66, 67, 68, 69, 70, 71, 72, 73, 74, 75, 76, 77, 78, 79, 6, 80, 81, 82, 83, 84, 85, 86, 87, 88, 89, 90, 91, 92, 93, 94, 95, 96, 97, 98, 99, 100, 125, 126, 117, 118, 119, 120, 121, 122, 123, 124, 127, 128] (by decide +kernel) (by decide +kernel)
set_option maxRecDepth 20000 in
theorem gX11_bit_X1_fillForOne : GoodIn wsX11_bit (wsV RX11 169 RX1 yX1_fillForOne wsX1_fillForOne) := goodIn_app (goodIn_of _ (by decide +kernel)) ggX11_bit_X1_fillForOne
set_option maxRecDepth 20000 in
theorem ggX11_bit_X1_bitOf : GoodIn wsX11_bit wsX1_bitOf := goodIn_r _ [104, 34, 68, 69, 70, 71, 72, 73, 125, 126, 128] (by decide +kernel) (by decide +kernel)
set_option maxRecDepth 20000 in
theorem gX11_bit_X1_bitOf : GoodIn wsX11_bit (wsV RX11 172 RX1 yX1_bitOf wsX1_bitOf) := goodIn_app (goodIn_of _ (by decide +kernel)) ggX11_bit_X1_bitOf
theorem dX11_bit_0 : decode cX11_bit 0 = .ok (.aload_n 0, 1) := by decide +kernel
theorem dX11_bit_1 : decode cX11_bit 1 = .ok (.iload_n 1, 1) := by decide +kernel
theorem dX11_bit_2 : decode cX11_bit 2 = .ok (.invokevirtual 91, 3) := by decide +kernel
theorem dX11_bit_5 : decode cX11_bit 5 = .ok (.astore 4, 2) := by decide +kernel
theorem dX11_bit_7 : decode cX11_bit 7 = .ok (.aload 4, 2) := by decide +kernel
theorem dX11_bit_9 : decode cX11_bit 9 = .ok (.iload_n 2, 1) := by decide +kernel
theorem dX11_bit_10 : decode cX11_bit 10 = .ok (.invokestatic 116, 3) := by decide +kernel
theorem dX11_bit_13 : decode cX11_bit 13 = .ok (.iload_n 3, 1) := by decide +kernel
theorem dX11_bit_14 : decode cX11_bit 14 = .ok (.iconst 0, 1) := by decide +kernel
theorem dX11_bit_15 : decode cX11_bit 15 = .ok (.ldc 168, 2) := by decide +kernel
theorem dX11_bit_17 : decode cX11_bit 17 = .ok (.invokestatic 135, 3) := by decide +kernel
theorem dX11_bit_20 : decode cX11_bit 20 = .ok (.aload_n 0, 1) := by decide +kernel
theorem dX11_bit_21 : decode cX11_bit 21 = .ok (.getfield 51, 3) := by decide +kernel
theorem dX11_bit_24 : decode cX11_bit 24 = .ok (.aload 4, 2) := by decide +kernel
theorem dX11_bit_26 : decode cX11_bit 26 = .ok (.iload_n 3, 1) := by decide +kernel
theorem dX11_bit_27 : decode cX11_bit 27 = .ok (.invokevirtual 169, 3) := by decide +kernel
theorem dX11_bit_30 : decode cX11_bit 30 = .ok (.aload_n 0, 1) := by decide +kernel
theorem dX11_bit_31 : decode cX11_bit 31 = .ok (.getfield 51, 3) := by decide +kernel
theorem dX11_bit_34 : decode cX11_bit 34 = .ok (.iload_n 2, 1) := by decide +kernel
theorem dX11_bit_35 : decode cX11_bit 35 = .ok (.invokevirtual 172, 3) := by decide +kernel
theorem dX11_bit_38 : decode cX11_bit 38 = .ok (.ireturn, 1) := by decide +kernel
set_option maxRecDepth 20000 in
theorem ggX11_value_X11_netAt : GoodIn wsX11_value wsX11_netAt := goodIn_ca (goodIn_r _ [7, 8, 9, 10, 98, 99, 100, 101, 102, 103, 104, 105, 106, 107, 108, 109] (by decide +kernel) (by decide +kernel)) (goodIn_sub (fun _ h => List.mem_cons_of_mem _ (List.mem_append_left _ (List.mem_append_right _ h))) (by decide +kernel))
set_option maxRecDepth 20000 in
theorem gX11_value_X11_netAt : GoodIn wsX11_value (wsV RX11 91 RX11 yX11_netAt wsX11_netAt) := goodIn_app (goodIn_of _ (by decide +kernel)) ggX11_value_X11_netAt
set_option maxRecDepth 20000 in
theorem ggX11_value_X11_needRange : GoodIn wsX11_value wsX11_needRange := goodIn_ca (goodIn_r _ [13, 14, 15] (by decide +kernel) (by decide +kernel)) (goodIn_sub (fun _ h => List.mem_cons_of_mem _ (List.mem_append_right _ h)) (by decide +kernel))
set_option maxRecDepth 20000 in
theorem gX11_value_X11_needRange : GoodIn wsX11_value (va_wsS RX11 135 yX11_needRange wsX11_needRange) := goodIn_app (goodIn_of _ (by decide +kernel)) ggX11_value_X11_needRange
set_option maxRecDepth 20000 in
theorem ggX11_value_X1_fillForOne : GoodIn wsX11_value wsX1_fillForOne := goodIn_r _ [20, 21, 22, 23, 19, 24, 25, 26, 27, 28, 29, 30, 31, 32, 33, 34, 35, 36, 37, 38, 39, 40, 41, 42, 43, 44, 45, 46, 47, 48, 49, 50, 51, 52, 53, 54, 55, 56, 57, 58, 59, 60, 61, 62, 63, 64, 65, 66, 67, 68, 69, 70, 71, 72, 6, 73, 74, 75, 76, 77, 78, 79, 80, 81, 82, 83, 84, 85, 86, 87, 88, 89, 90, 91, 92, 93, 110, 111, 112, 113, 114, 115, 116, 117, 118, 119, 120, 121] (by decide +kernel) (by decide +kernel)
set_option maxRecDepth 20000 in
theorem gX11_value_X1_fillForOne : GoodIn wsX11_value (wsV RX11 169 RX1 yX1_fillForOne wsX1_fillForOne) := goodIn_app (goodIn_of _ (by decide +kernel)) ggX11_value_X1_fillForOne
set_option maxRecDepth 20000 in
theorem ggX11_value_X1_valueInLane : GoodIn wsX11_value wsX1_valueInLane := goodIn_r _ [97, 26, 84, 85, 86, 30, 87, 88, 61, 62, 63, 64, 65, 66, 110, 111, 112, 113, 114, 115, 116, 117, 118, 119, 121] (by decide +kernel) (by decide +kernel)
set_option maxRecDepth 20000 in
theorem gX11_value_X1_valueInLane : GoodIn wsX11_value (wsV RX11 175 RX1 yX1_valueInLane wsX1_valueInLane) := goodIn_app (goodIn_of _ (by decide +kernel)) ggX11_value_X1_valueInLane
theorem dX11_value_0 : decode cX11_value 0 = .ok (.aload_n 0, 1) := by decide +kernel
theorem dX11_value_1 : decode cX11_value 1 = .ok (.iload_n 1, 1) := by decide +kernel
theorem dX11_value_2 : decode cX11_value 2 = .ok (.invokevirtual 91, 3) := by decide +kernel
theorem dX11_value_5 : decode cX11_value 5 = .ok (.astore_n 3, 1) := by decide +kernel
theorem dX11_value_6 : decode cX11_value 6 = .ok (.iload_n 2, 1) := by decide +kernel
theorem dX11_value_7 : decode cX11_value 7 = .ok (.iconst 0, 1) := by decide +kernel
theorem dX11_value_8 : decode cX11_value 8 = .ok (.ldc 168, 2) := by decide +kernel
theorem dX11_value_10 : decode cX11_value 10 = .ok (.invokestatic 135, 3) := by decide +kernel
theorem dX11_value_13 : decode cX11_value 13 = .ok (.aload_n 0, 1) := by decide +kernel
theorem dX11_value_14 : decode cX11_value 14 = .ok (.getfield 51, 3) := by decide +kernel
theorem dX11_value_17 : decode cX11_value 17 = .ok (.aload_n 3, 1) := by decide +kernel
theorem dX11_value_18 : decode cX11_value 18 = .ok (.iload_n 2, 1) := by decide +kernel
theorem dX11_value_19 : decode cX11_value 19 = .ok (.invokevirtual 169, 3) := by decide +kernel
theorem dX11_value_22 : decode cX11_value 22 = .ok (.aload_n 0, 1) := by decide +kernel
theorem dX11_value_23 : decode cX11_value 23 = .ok (.getfield 51, 3) := by decide +kernel
theorem dX11_value_26 : decode cX11_value 26 = .ok (.aload_n 3, 1) := by decide +kernel
theorem dX11_value_27 : decode cX11_value 27 = .ok (.iconst 0, 1) := by decide +kernel
theorem dX11_value_28 : decode cX11_value 28 = .ok (.invokevirtual 175, 3) := by decide +kernel
theorem dX11_value_31 : decode cX11_value 31 = .ok (.ireturn, 1) := by decide +kernel
set_option maxRecDepth 20000 in
theorem ggX11_valueAnew_X11_netAt : GoodIn wsX11_valueAnew wsX11_netAt := goodIn_ca (goodIn_r _ [7, 8, 9, 10, 89, 90, 91, 92, 93, 94, 95, 96, 97, 98, 99, 100] (by decide +kernel) (by decide +kernel)) (goodIn_sub (fun _ h => List.mem_cons_of_mem _ (List.mem_append_left _ (List.mem_append_right _ h))) (by decide +kernel))
set_option maxRecDepth 20000 in
theorem gX11_valueAnew_X11_netAt : GoodIn wsX11_valueAnew (wsV RX11 91 RX11 yX11_netAt wsX11_netAt) := goodIn_app (goodIn_of _ (by decide +kernel)) ggX11_valueAnew_X11_netAt
set_option maxRecDepth 20000 in
theorem ggX11_valueAnew_X11_needRange : GoodIn wsX11_valueAnew wsX11_needRange := goodIn_ca (goodIn_r _ [13, 14, 15] (by decide +kernel) (by decide +kernel)) (goodIn_sub (fun _ h => List.mem_cons_of_mem _ (List.mem_append_right _ h)) (by decide +kernel))
set_option maxRecDepth 20000 in
theorem gX11_valueAnew_X11_needRange : GoodIn wsX11_valueAnew (va_wsS RX11 135 yX11_needRange wsX11_needRange) := goodIn_app (goodIn_of _ (by decide +kernel)) ggX11_valueAnew_X11_needRange
set_option maxRecDepth 20000 in
theorem ggX11_valueAnew_X3_outCount : GoodIn wsX11_valueAnew wsX3_outCount := goodIn_r _ [20, 21, 101, 102, 103, 104, 105, 106, 107, 108] (by decide +kernel) (by decide +kernel)
set_option maxRecDepth 20000 in
theorem gX11_valueAnew_X3_outCount : GoodIn wsX11_valueAnew (wsV RX11 126 RX3 yX3_outCount wsX3_outCount) := goodIn_app (goodIn_of _ (by decide +kernel)) ggX11_valueAnew_X3_outCount
set_option maxRecDepth 20000 in
theorem ggX11_valueAnew_X3_outAt : GoodIn wsX11_valueAnew wsX3_outAt := goodIn_r _ [25, 26, 27, 28, 29, 30, 31, 32, 101, 102, 103, 104, 105, 106, 107, 108, 109] (by decide +kernel) (by decide +kernel)
set_option maxRecDepth 20000 in
theorem gX11_valueAnew_X3_outAt : GoodIn wsX11_valueAnew (wsV RX11 179 RX3 yX3_outAt wsX3_outAt) := goodIn_app (goodIn_of _ (by decide +kernel)) ggX11_valueAnew_X3_outAt
set_option maxRecDepth 20000 in
theorem ggX11_valueAnew_X10_bitGoingBack : GoodIn wsX11_valueAnew wsX10_bitGoingBack := goodIn_r _ [37, 38, 39, 40, 41, 42, 30, 43, 32, 44, 45, 46, 47, 48, 49, 50, 36, 51, 52, 53, 54, 19, 55, 56, 57, 28, 29, 31, 58, 59, 60, 61, 62, 27, 63, 64, 65, 66, 67, 68, 69, 70, 71, 72, 73, 74, 75, 76, 77, 78, 79, 80, 81, 82, 83, 84, 85, 86, 6, 87, 88, 110, 111, 112, 109, 101, 102, 103, 104, 105, 106, 107, 108] (by decide +kernel) (by decide +kernel)
set_option maxRecDepth 20000 in
theorem gX11_valueAnew_X10_bitGoingBack : GoodIn wsX11_valueAnew (wsV RX11 182 RX10 yX10_bitGoingBack wsX10_bitGoingBack) := goodIn_app (goodIn_of _ (by decide +kernel)) ggX11_valueAnew_X10_bitGoingBack
theorem dX11_valueAnew_0 : decode cX11_valueAnew 0 = .ok (.aload_n 0, 1) := by decide +kernel
theorem dX11_valueAnew_1 : decode cX11_valueAnew 1 = .ok (.iload_n 1, 1) := by decide +kernel
theorem dX11_valueAnew_2 : decode cX11_valueAnew 2 = .ok (.invokevirtual 91, 3) := by decide +kernel
theorem dX11_valueAnew_5 : decode cX11_valueAnew 5 = .ok (.astore_n 3, 1) := by decide +kernel
theorem dX11_valueAnew_6 : decode cX11_valueAnew 6 = .ok (.iload_n 2, 1) := by decide +kernel
theorem dX11_valueAnew_7 : decode cX11_valueAnew 7 = .ok (.iconst 0, 1) := by decide +kernel
theorem dX11_valueAnew_8 : decode cX11_valueAnew 8 = .ok (.ldc 168, 2) := by decide +kernel
theorem dX11_valueAnew_10 : decode cX11_valueAnew 10 = .ok (.invokestatic 135, 3) := by decide +kernel
theorem dX11_valueAnew_13 : decode cX11_valueAnew 13 = .ok (.iconst 0, 1) := by decide +kernel
theorem dX11_valueAnew_14 : decode cX11_valueAnew 14 = .ok (.istore 4, 2) := by decide +kernel
theorem dX11_valueAnew_16 : decode cX11_valueAnew 16 = .ok (.iconst 0, 1) := by decide +kernel
theorem dX11_valueAnew_17 : decode cX11_valueAnew 17 = .ok (.istore 5, 2) := by decide +kernel
theorem dX11_valueAnew_19 : decode cX11_valueAnew 19 = .ok (.iload 5, 2) := by decide +kernel
theorem dX11_valueAnew_21 : decode cX11_valueAnew 21 = .ok (.aload_n 3, 1) := by decide +kernel
theorem dX11_valueAnew_22 : decode cX11_valueAnew 22 = .ok (.invokevirtual 126, 3) := by decide +kernel
theorem dX11_valueAnew_25 : decode cX11_valueAnew 25 = .ok (.if_icmp .ge 32, 3) := by decide +kernel
theorem dX11_valueAnew_28 : decode cX11_valueAnew 28 = .ok (.iload 4, 2) := by decide +kernel
theorem dX11_valueAnew_30 : decode cX11_valueAnew 30 = .ok (.aload_n 0, 1) := by decide +kernel
theorem dX11_valueAnew_31 : decode cX11_valueAnew 31 = .ok (.getfield 37, 3) := by decide +kernel
theorem dX11_valueAnew_34 : decode cX11_valueAnew 34 = .ok (.aload_n 3, 1) := by decide +kernel
theorem dX11_valueAnew_35 : decode cX11_valueAnew 35 = .ok (.aload_n 3, 1) := by decide +kernel
theorem dX11_valueAnew_36 : decode cX11_valueAnew 36 = .ok (.iload 5, 2) := by decide +kernel
theorem dX11_valueAnew_38 : decode cX11_valueAnew 38 = .ok (.invokevirtual 179, 3) := by decide +kernel
theorem dX11_valueAnew_41 : decode cX11_valueAnew 41 = .ok (.iload_n 2, 1) := by decide +kernel
theorem dX11_valueAnew_42 : decode cX11_valueAnew 42 = .ok (.invokevirtual 182, 3) := by decide +kernel
theorem dX11_valueAnew_45 : decode cX11_valueAnew 45 = .ok (.iload 5, 2) := by decide +kernel
theorem dX11_valueAnew_47 : decode cX11_valueAnew 47 = .ok (.ishl, 1) := by decide +kernel
theorem dX11_valueAnew_48 : decode cX11_valueAnew 48 = .ok (.iadd, 1) := by decide +kernel
theorem dX11_valueAnew_49 : decode cX11_valueAnew 49 = .ok (.istore 4, 2) := by decide +kernel
theorem dX11_valueAnew_51 : decode cX11_valueAnew 51 = .ok (.iinc 5 1, 3) := by decide +kernel
theorem dX11_valueAnew_54 : decode cX11_valueAnew 54 = .ok (.goto (-35), 3) := by decide +kernel
theorem dX11_valueAnew_57 : decode cX11_valueAnew 57 = .ok (.iload 4, 2) := by decide +kernel
theorem dX11_valueAnew_59 : decode cX11_valueAnew 59 = .ok (.ireturn, 1) := by decide +kernel
set_option maxRecDepth 20000 in
theorem ggX11_ofNet_X11_netAt : GoodIn wsX11_ofNet wsX11_netAt := goodIn_ca (goodIn_r _ [8, 9, 10, 11, 132, 133, 134, 135, 136, 137, 138, 139, 140, 141, 142, 143] (by decide +kernel) (by decide +kernel)) (goodIn_sub (fun _ h => List.mem_cons_of_mem _ (List.mem_append_left _ (List.mem_append_right _ h))) (by decide +kernel))
set_option maxRecDepth 20000 in
theorem gX11_ofNet_X11_netAt : GoodIn wsX11_ofNet (wsV RX11 91 RX11 yX11_netAt wsX11_netAt) := goodIn_app (goodIn_of _ (by decide +kernel)) ggX11_ofNet_X11_netAt
set_option maxRecDepth 20000 in
theorem ggX11_ofNet_X11_needRange : GoodIn wsX11_ofNet wsX11_needRange := goodIn_ca (goodIn_r _ [14, 15, 16] (by decide +kernel) (by decide +kernel)) (goodIn_sub (fun _ h => List.mem_cons_of_mem _ (List.mem_append_right _ h)) (by decide +kernel))
set_option maxRecDepth 20000 in
theorem gX11_ofNet_X11_needRange : GoodIn wsX11_ofNet (va_wsS RX11 135 yX11_needRange wsX11_needRange) := goodIn_app (goodIn_of _ (by decide +kernel)) ggX11_ofNet_X11_needRange
set_option maxRecDepth 20000 in
theorem ggX11_ofNet_X3_size : GoodIn wsX11_ofNet wsX3_size := goodIn_r _ [21, 22, 144, 145, 146, 147, 148, 149, 150, 151] (by decide +kernel) (by decide +kernel)
set_option maxRecDepth 20000 in
theorem gX11_ofNet_X3_size : GoodIn wsX11_ofNet (wsV RX11 150 RX3 yX3_size wsX3_size) := goodIn_app (goodIn_of _ (by decide +kernel)) ggX11_ofNet_X3_size
set_option maxRecDepth 20000 in
theorem ggX11_ofNet_X3_inputCount : GoodIn wsX11_ofNet wsX3_inputCount := goodIn_r _ [26, 27, 144, 145, 146, 147, 148, 149, 150, 151] (by decide +kernel) (by decide +kernel)
set_option maxRecDepth 20000 in
theorem gX11_ofNet_X3_inputCount : GoodIn wsX11_ofNet (wsV RX11 99 RX3 yX3_inputCount wsX3_inputCount) := goodIn_app (goodIn_of _ (by decide +kernel)) ggX11_ofNet_X3_inputCount
set_option maxRecDepth 20000 in
theorem ggX11_ofNet_X3_outCount : GoodIn wsX11_ofNet wsX3_outCount := goodIn_r _ [31, 32, 144, 145, 146, 147, 148, 149, 150, 151] (by decide +kernel) (by decide +kernel)
set_option maxRecDepth 20000 in
theorem gX11_ofNet_X3_outCount : GoodIn wsX11_ofNet (wsV RX11 126 RX3 yX3_outCount wsX3_outCount) := goodIn_app (goodIn_of _ (by decide +kernel)) ggX11_ofNet_X3_outCount
set_option maxRecDepth 20000 in
theorem ggX11_ofNet_X11_areaOf : GoodIn wsX11_ofNet wsX11_areaOf := goodIn_r _ [36, 37, 17, 18, 19, 20, 21, 22, 38, 39, 40, 41, 42, 43, 44, 45, 46, 47, 48, 49, 50, 51, 52, 53, 132, 133, 134, 135, 136, 137, 138, 139, 140, 141, 142, 143, 144, 145, 146, 147, 148, 149, 150, 151, 152] (by decide +kernel) (by decide +kernel)
set_option maxRecDepth 20000 in
theorem gX11_ofNet_X11_areaOf : GoodIn wsX11_ofNet (wsV RX11 186 RX11 yX11_areaOf wsX11_areaOf) := goodIn_app (goodIn_of _ (by decide +kernel)) ggX11_ofNet_X11_areaOf
set_option maxRecDepth 20000 in
theorem ggX11_ofNet_X7_measure : GoodIn wsX11_ofNet wsX7_measure := goodIn_r _ [58, 59, 60, 61, 62, 63, 64, 65, 18, 19, 20, 21, 22, 66, 39, 40, 41, 42, 43, 44, 45, 46, 47, 48, 67, 68, 69, 70, 71, 72, 73, 74, 75, 76, 77, 78, 50, 51, 52, 79, 80, 81, 82, 153, 154, 144, 145, 146, 147, 148, 149, 150, 151, 152] (by decide +kernel) (by decide +kernel)
set_option maxRecDepth 20000 in
theorem gX11_ofNet_X7_measure : GoodIn wsX11_ofNet (wsV RX11 190 RX7 yX7_measure wsX7_measure) := goodIn_app (goodIn_of _ (by decide +kernel)) ggX11_ofNet_X7_measure
set_option maxRecDepth 20000 in
theorem ggX11_ofNet_X7_timeOfNet : GoodIn wsX11_ofNet wsX7_timeOfNet := goodIn_r _ [86, 60, 87, 88, 89, 57, 90, 91, 29, 30, 20, 31, 32, 92, 93, 94, 95, 96, 43, 44, 45, 46, 47, 48, 72, 153, 154, 144, 145, 146, 147, 148, 149, 150, 151, 152] (by decide +kernel) (by decide +kernel)
set_option maxRecDepth 20000 in
theorem gX11_ofNet_X7_timeOfNet : GoodIn wsX11_ofNet (wsV RX11 194 RX7 yX7_timeOfNet wsX7_timeOfNet) := goodIn_app (goodIn_of _ (by decide +kernel)) ggX11_ofNet_X7_timeOfNet
set_option maxRecDepth 20000 in
theorem ggX11_ofNet_X10_greatestLoad : GoodIn wsX11_ofNet wsX10_greatestLoad := goodIn_r _ [101, 102, 103, 62, 63, 64, 104, 105, 106, 46, 107, 48, 108, 18, 19, 20, 21, 22, 109, 39, 40, 41, 42, 43, 44, 45, 47, 110, 68, 69, 70, 71, 111, 112, 113, 114, 115, 116, 80, 81, 82, 117, 74, 75, 76, 77, 118, 50, 51, 52, 119, 29, 30, 31, 32, 120, 93, 94, 95, 96, 121, 155, 156, 157, 152, 144, 145, 146, 147, 148, 149, 150, 151] (by decide +kernel) (by decide +kernel)
set_option maxRecDepth 20000 in
theorem gX11_ofNet_X10_greatestLoad : GoodIn wsX11_ofNet (wsV RX11 197 RX10 yX10_greatestLoad wsX10_greatestLoad) := goodIn_app (goodIn_of _ (by decide +kernel)) ggX11_ofNet_X10_greatestLoad
set_option maxRecDepth 20000 in
theorem ggX11_ofNet_X10_idleCount : GoodIn wsX11_ofNet wsX10_idleCount := goodIn_r _ [125, 126, 104, 105, 106, 46, 107, 48, 119, 29, 30, 20, 31, 32, 120, 93, 94, 95, 96, 43, 44, 45, 47, 127, 80, 81, 82, 128, 129, 130, 100, 131, 108, 18, 19, 21, 22, 121, 109, 39, 40, 41, 42, 110, 68, 69, 70, 71, 117, 74, 75, 76, 77, 155, 156, 157, 152, 144, 145, 146, 147, 148, 149, 150, 151] (by decide +kernel) (by decide +kernel)
set_option maxRecDepth 20000 in
theorem gX11_ofNet_X10_idleCount : GoodIn wsX11_ofNet (wsV RX11 200 RX10 yX10_idleCount wsX10_idleCount) := goodIn_app (goodIn_of _ (by decide +kernel)) ggX11_ofNet_X10_idleCount
theorem dX11_ofNet_0 : decode cX11_ofNet 0 = .ok (.aload_n 0, 1) := by decide +kernel
theorem dX11_ofNet_1 : decode cX11_ofNet 1 = .ok (.iload_n 1, 1) := by decide +kernel
theorem dX11_ofNet_2 : decode cX11_ofNet 2 = .ok (.invokevirtual 91, 3) := by decide +kernel
theorem dX11_ofNet_5 : decode cX11_ofNet 5 = .ok (.astore_n 3, 1) := by decide +kernel
theorem dX11_ofNet_6 : decode cX11_ofNet 6 = .ok (.iload_n 2, 1) := by decide +kernel
theorem dX11_ofNet_7 : decode cX11_ofNet 7 = .ok (.iconst 0, 1) := by decide +kernel
theorem dX11_ofNet_8 : decode cX11_ofNet 8 = .ok (.bipush 6, 2) := by decide +kernel
theorem dX11_ofNet_10 : decode cX11_ofNet 10 = .ok (.invokestatic 135, 3) := by decide +kernel
theorem dX11_ofNet_13 : decode cX11_ofNet 13 = .ok (.iload_n 2, 1) := by decide +kernel
theorem dX11_ofNet_14 : decode cX11_ofNet 14 = .ok (.tableswitch 89 0 5 #[38, 43, 48, 53, 59, 80], 38) := by decide +kernel
theorem dX11_ofNet_52 : decode cX11_ofNet 52 = .ok (.aload_n 3, 1) := by decide +kernel
theorem dX11_ofNet_53 : decode cX11_ofNet 53 = .ok (.invokevirtual 150, 3) := by decide +kernel
theorem dX11_ofNet_56 : decode cX11_ofNet 56 = .ok (.ireturn, 1) := by decide +kernel
theorem dX11_ofNet_57 : decode cX11_ofNet 57 = .ok (.aload_n 3, 1) := by decide +kernel
theorem dX11_ofNet_58 : decode cX11_ofNet 58 = .ok (.invokevirtual 99, 3) := by decide +kernel
theorem dX11_ofNet_61 : decode cX11_ofNet 61 = .ok (.ireturn, 1) := by decide +kernel
theorem dX11_ofNet_62 : decode cX11_ofNet 62 = .ok (.aload_n 3, 1) := by decide +kernel
theorem dX11_ofNet_63 : decode cX11_ofNet 63 = .ok (.invokevirtual 126, 3) := by decide +kernel
theorem dX11_ofNet_66 : decode cX11_ofNet 66 = .ok (.ireturn, 1) := by decide +kernel
theorem dX11_ofNet_67 : decode cX11_ofNet 67 = .ok (.aload_n 0, 1) := by decide +kernel
theorem dX11_ofNet_68 : decode cX11_ofNet 68 = .ok (.aload_n 3, 1) := by decide +kernel
theorem dX11_ofNet_69 : decode cX11_ofNet 69 = .ok (.invokevirtual 186, 3) := by decide +kernel
theorem dX11_ofNet_72 : decode cX11_ofNet 72 = .ok (.ireturn, 1) := by decide +kernel
theorem dX11_ofNet_73 : decode cX11_ofNet 73 = .ok (.aload_n 0, 1) := by decide +kernel
theorem dX11_ofNet_74 : decode cX11_ofNet 74 = .ok (.getfield 44, 3) := by decide +kernel
theorem dX11_ofNet_77 : decode cX11_ofNet 77 = .ok (.aload_n 3, 1) := by decide +kernel
theorem dX11_ofNet_78 : decode cX11_ofNet 78 = .ok (.aload_n 0, 1) := by decide +kernel
theorem dX11_ofNet_79 : decode cX11_ofNet 79 = .ok (.getfield 20, 3) := by decide +kernel
theorem dX11_ofNet_82 : decode cX11_ofNet 82 = .ok (.invokevirtual 190, 3) := by decide +kernel
theorem dX11_ofNet_85 : decode cX11_ofNet 85 = .ok (.aload_n 0, 1) := by decide +kernel
theorem dX11_ofNet_86 : decode cX11_ofNet 86 = .ok (.getfield 44, 3) := by decide +kernel
theorem dX11_ofNet_89 : decode cX11_ofNet 89 = .ok (.aload_n 3, 1) := by decide +kernel
theorem dX11_ofNet_90 : decode cX11_ofNet 90 = .ok (.invokevirtual 194, 3) := by decide +kernel
theorem dX11_ofNet_93 : decode cX11_ofNet 93 = .ok (.ireturn, 1) := by decide +kernel
theorem dX11_ofNet_94 : decode cX11_ofNet 94 = .ok (.aload_n 0, 1) := by decide +kernel
theorem dX11_ofNet_95 : decode cX11_ofNet 95 = .ok (.getfield 37, 3) := by decide +kernel
theorem dX11_ofNet_98 : decode cX11_ofNet 98 = .ok (.aload_n 3, 1) := by decide +kernel
theorem dX11_ofNet_99 : decode cX11_ofNet 99 = .ok (.invokevirtual 197, 3) := by decide +kernel
theorem dX11_ofNet_102 : decode cX11_ofNet 102 = .ok (.ireturn, 1) := by decide +kernel
theorem dX11_ofNet_103 : decode cX11_ofNet 103 = .ok (.aload_n 0, 1) := by decide +kernel
theorem dX11_ofNet_104 : decode cX11_ofNet 104 = .ok (.getfield 37, 3) := by decide +kernel
theorem dX11_ofNet_107 : decode cX11_ofNet 107 = .ok (.aload_n 3, 1) := by decide +kernel
theorem dX11_ofNet_108 : decode cX11_ofNet 108 = .ok (.invokevirtual 200, 3) := by decide +kernel
theorem dX11_ofNet_111 : decode cX11_ofNet 111 = .ok (.ireturn, 1) := by decide +kernel
set_option maxRecDepth 20000 in
theorem ggX11_time_X11_netAt : GoodIn wsX11_time wsX11_netAt := goodIn_ca (goodIn_r _ [7, 8, 9, 10, 69, 70, 71, 72, 73, 74, 75, 76, 77, 78, 79, 80] (by decide +kernel) (by decide +kernel)) (goodIn_sub (fun _ h => List.mem_cons_of_mem _ (List.mem_append_right _ h)) (by decide +kernel))
set_option maxRecDepth 20000 in
theorem gX11_time_X11_netAt : GoodIn wsX11_time (wsV RX11 91 RX11 yX11_netAt wsX11_netAt) := goodIn_app (goodIn_of _ (by decide +kernel)) ggX11_time_X11_netAt
set_option maxRecDepth 20000 in
theorem ggX11_time_X11_needGate : GoodIn wsX11_time wsX11_needGate := goodIn_ca (goodIn_r _ [13, 8, 9, 14, 15, 16, 17, 18, 19, 81, 82, 83, 84, 85, 86, 87, 88] (by decide +kernel) (by decide +kernel)) (goodIn_sub (fun _ h => List.mem_cons_of_mem _ (List.mem_append_right _ h)) (by decide +kernel))
set_option maxRecDepth 20000 in
theorem gX11_time_X11_needGate : GoodIn wsX11_time (va_wsS RX11 116 yX11_needGate wsX11_needGate) := goodIn_app (goodIn_of _ (by decide +kernel)) ggX11_time_X11_needGate
set_option maxRecDepth 20000 in
theorem ggX11_time_X7_measure : GoodIn wsX11_time wsX7_measure := goodIn_r _ [24, 25, 26, 27, 28, 29, 30, 31, 32, 33, 17, 34, 19, 35, 36, 37, 38, 39, 40, 41, 42, 43, 44, 45, 46, 47, 48, 49, 50, 51, 52, 53, 54, 55, 56, 57, 58, 59, 60, 61, 62, 63, 64, 89, 90, 81, 82, 83, 84, 85, 86, 87, 88, 91] (by decide +kernel) (by decide +kernel)
set_option maxRecDepth 20000 in
theorem gX11_time_X7_measure : GoodIn wsX11_time (wsV RX11 190 RX7 yX7_measure wsX7_measure) := goodIn_app (goodIn_of _ (by decide +kernel)) ggX11_time_X7_measure
set_option maxRecDepth 20000 in
theorem ggX11_time_X7_timeOf : GoodIn wsX11_time wsX7_timeOf := goodIn_r _ [68, 26, 51, 41, 42, 43, 44, 45, 89, 90, 91] (by decide +kernel) (by decide +kernel)
set_option maxRecDepth 20000 in
theorem gX11_time_X7_timeOf : GoodIn wsX11_time (wsV RX11 203 RX7 yX7_timeOf wsX7_timeOf) := goodIn_app (goodIn_of _ (by decide +kernel)) ggX11_time_X7_timeOf
theorem dX11_time_0 : decode cX11_time 0 = .ok (.aload_n 0, 1) := by decide +kernel
theorem dX11_time_1 : decode cX11_time 1 = .ok (.iload_n 1, 1) := by decide +kernel
theorem dX11_time_2 : decode cX11_time 2 = .ok (.invokevirtual 91, 3) := by decide +kernel
theorem dX11_time_5 : decode cX11_time 5 = .ok (.astore_n 3, 1) := by decide +kernel
theorem dX11_time_6 : decode cX11_time 6 = .ok (.aload_n 3, 1) := by decide +kernel
theorem dX11_time_7 : decode cX11_time 7 = .ok (.iload_n 2, 1) := by decide +kernel
theorem dX11_time_8 : decode cX11_time 8 = .ok (.invokestatic 116, 3) := by decide +kernel
theorem dX11_time_11 : decode cX11_time 11 = .ok (.aload_n 0, 1) := by decide +kernel
theorem dX11_time_12 : decode cX11_time 12 = .ok (.getfield 44, 3) := by decide +kernel
theorem dX11_time_15 : decode cX11_time 15 = .ok (.aload_n 3, 1) := by decide +kernel
theorem dX11_time_16 : decode cX11_time 16 = .ok (.aload_n 0, 1) := by decide +kernel
theorem dX11_time_17 : decode cX11_time 17 = .ok (.getfield 20, 3) := by decide +kernel
theorem dX11_time_20 : decode cX11_time 20 = .ok (.invokevirtual 190, 3) := by decide +kernel
theorem dX11_time_23 : decode cX11_time 23 = .ok (.aload_n 0, 1) := by decide +kernel
theorem dX11_time_24 : decode cX11_time 24 = .ok (.getfield 44, 3) := by decide +kernel
theorem dX11_time_27 : decode cX11_time 27 = .ok (.iload_n 2, 1) := by decide +kernel
theorem dX11_time_28 : decode cX11_time 28 = .ok (.invokevirtual 203, 3) := by decide +kernel
theorem dX11_time_31 : decode cX11_time 31 = .ok (.ireturn, 1) := by decide +kernel
set_option maxRecDepth 20000 in
theorem ggX11_path_X11_netAt : GoodIn wsX11_path wsX11_netAt := goodIn_ca (goodIn_r _ [9, 1, 2, 10, 76, 77, 78, 79, 80, 81, 82, 83, 84, 85, 86, 87] (by decide +kernel) (by decide +kernel)) (goodIn_sub (fun _ h => List.mem_cons_of_mem _ (List.mem_append_right _ h)) (by decide +kernel))
set_option maxRecDepth 20000 in
theorem gX11_path_X11_netAt : GoodIn wsX11_path (wsV RX11 91 RX11 yX11_netAt wsX11_netAt) := goodIn_app (goodIn_of _ (by decide +kernel)) ggX11_path_X11_netAt
set_option maxRecDepth 20000 in
theorem ggX11_path_X7_measure : GoodIn wsX11_path wsX7_measure := goodIn_r _ [15, 16, 17, 18, 19, 20, 21, 22, 23, 24, 25, 26, 27, 28, 29, 30, 31, 32, 33, 34, 35, 36, 37, 38, 39, 40, 41, 42, 43, 44, 45, 46, 47, 48, 49, 50, 51, 52, 53, 54, 55, 56, 57, 88, 89, 90, 91, 92, 93, 94, 95, 96, 97, 98] (by decide +kernel) (by decide +kernel)
set_option maxRecDepth 20000 in
theorem gX11_path_X7_measure : GoodIn wsX11_path (wsV RX11 190 RX7 yX7_measure wsX7_measure) := goodIn_app (goodIn_of _ (by decide +kernel)) ggX11_path_X7_measure
set_option maxRecDepth 20000 in
theorem ggX11_path_X7_slowestOut : GoodIn wsX11_path wsX7_slowestOut := goodIn_r _ [61, 17, 62, 63, 64, 25, 65, 66, 67, 68, 69, 70, 71, 33, 34, 35, 36, 37, 38, 44, 88, 89, 90, 91, 92, 93, 94, 95, 96, 97, 98] (by decide +kernel) (by decide +kernel)
set_option maxRecDepth 20000 in
theorem gX11_path_X7_slowestOut : GoodIn wsX11_path (wsV RX11 211 RX7 yX7_slowestOut wsX7_slowestOut) := goodIn_app (goodIn_of _ (by decide +kernel)) ggX11_path_X7_slowestOut
set_option maxRecDepth 20000 in
theorem ggX11_path_X7_slowestSource : GoodIn wsX11_path wsX7_slowestSource := goodIn_r _ [75, 17, 28, 29, 30, 25, 31, 32, 33, 34, 35, 36, 37, 38, 39, 40, 41, 42, 43, 44, 50, 51, 52, 53, 45, 46, 47, 48, 49, 88, 89, 90, 91, 92, 93, 94, 95, 96, 97, 98] (by decide +kernel) (by decide +kernel)
set_option maxRecDepth 20000 in
theorem gX11_path_X7_slowestSource : GoodIn wsX11_path (wsV RX11 214 RX7 yX7_slowestSource wsX7_slowestSource) := goodIn_app (goodIn_of _ (by decide +kernel)) ggX11_path_X7_slowestSource
theorem dX11_path_0 : decode cX11_path 0 = .ok (.aload_n 0, 1) := by decide +kernel
theorem dX11_path_1 : decode cX11_path 1 = .ok (.iload_n 1, 1) := by decide +kernel
theorem dX11_path_2 : decode cX11_path 2 = .ok (.invokevirtual 91, 3) := by decide +kernel
theorem dX11_path_5 : decode cX11_path 5 = .ok (.astore_n 3, 1) := by decide +kernel
theorem dX11_path_6 : decode cX11_path 6 = .ok (.iload_n 2, 1) := by decide +kernel
theorem dX11_path_7 : decode cX11_path 7 = .ok (.ifCond .ge 13, 3) := by decide +kernel
theorem dX11_path_10 : decode cX11_path 10 = .ok (.new 206, 3) := by decide +kernel
theorem dX11_path_13 : decode cX11_path 13 = .ok (.dup, 1) := by decide +kernel
theorem dX11_path_14 : decode cX11_path 14 = .ok (.ldc 208, 2) := by decide +kernel
theorem dX11_path_16 : decode cX11_path 16 = .ok (.invokespecial 210, 3) := by decide +kernel
theorem dX11_path_19 : decode cX11_path 19 = .ok (.athrow, 1) := by decide +kernel
theorem dX11_path_20 : decode cX11_path 20 = .ok (.iload_n 2, 1) := by decide +kernel
theorem dX11_path_21 : decode cX11_path 21 = .ok (.bipush 120, 2) := by decide +kernel
theorem dX11_path_23 : decode cX11_path 23 = .ok (.if_icmp .lt 5, 3) := by decide +kernel
theorem dX11_path_26 : decode cX11_path 26 = .ok (.iconst (-1), 1) := by decide +kernel
theorem dX11_path_27 : decode cX11_path 27 = .ok (.ireturn, 1) := by decide +kernel
theorem dX11_path_28 : decode cX11_path 28 = .ok (.aload_n 0, 1) := by decide +kernel
theorem dX11_path_29 : decode cX11_path 29 = .ok (.getfield 44, 3) := by decide +kernel
theorem dX11_path_32 : decode cX11_path 32 = .ok (.aload_n 3, 1) := by decide +kernel
theorem dX11_path_33 : decode cX11_path 33 = .ok (.aload_n 0, 1) := by decide +kernel
theorem dX11_path_34 : decode cX11_path 34 = .ok (.getfield 20, 3) := by decide +kernel
theorem dX11_path_37 : decode cX11_path 37 = .ok (.invokevirtual 190, 3) := by decide +kernel
theorem dX11_path_40 : decode cX11_path 40 = .ok (.aload_n 0, 1) := by decide +kernel
theorem dX11_path_41 : decode cX11_path 41 = .ok (.getfield 44, 3) := by decide +kernel
theorem dX11_path_44 : decode cX11_path 44 = .ok (.aload_n 3, 1) := by decide +kernel
theorem dX11_path_45 : decode cX11_path 45 = .ok (.invokevirtual 211, 3) := by decide +kernel
theorem dX11_path_48 : decode cX11_path 48 = .ok (.istore 4, 2) := by decide +kernel
theorem dX11_path_50 : decode cX11_path 50 = .ok (.iconst 0, 1) := by decide +kernel
theorem dX11_path_51 : decode cX11_path 51 = .ok (.istore 5, 2) := by decide +kernel
theorem dX11_path_53 : decode cX11_path 53 = .ok (.iload 5, 2) := by decide +kernel
theorem dX11_path_55 : decode cX11_path 55 = .ok (.iload_n 2, 1) := by decide +kernel
theorem dX11_path_56 : decode cX11_path 56 = .ok (.if_icmp .ge 31, 3) := by decide +kernel
theorem dX11_path_59 : decode cX11_path 59 = .ok (.iload 4, 2) := by decide +kernel
theorem dX11_path_61 : decode cX11_path 61 = .ok (.iconst (-1), 1) := by decide +kernel
theorem dX11_path_62 : decode cX11_path 62 = .ok (.if_icmp .eq 25, 3) := by decide +kernel
theorem dX11_path_65 : decode cX11_path 65 = .ok (.aload_n 0, 1) := by decide +kernel
theorem dX11_path_66 : decode cX11_path 66 = .ok (.getfield 44, 3) := by decide +kernel
theorem dX11_path_69 : decode cX11_path 69 = .ok (.aload_n 3, 1) := by decide +kernel
theorem dX11_path_70 : decode cX11_path 70 = .ok (.aload_n 0, 1) := by decide +kernel
theorem dX11_path_71 : decode cX11_path 71 = .ok (.getfield 20, 3) := by decide +kernel
theorem dX11_path_74 : decode cX11_path 74 = .ok (.iload 4, 2) := by decide +kernel
theorem dX11_path_76 : decode cX11_path 76 = .ok (.invokevirtual 214, 3) := by decide +kernel
theorem dX11_path_79 : decode cX11_path 79 = .ok (.istore 4, 2) := by decide +kernel
theorem dX11_path_81 : decode cX11_path 81 = .ok (.iinc 5 1, 3) := by decide +kernel
theorem dX11_path_84 : decode cX11_path 84 = .ok (.goto (-31), 3) := by decide +kernel
theorem dX11_path_87 : decode cX11_path 87 = .ok (.iload 4, 2) := by decide +kernel
theorem dX11_path_89 : decode cX11_path 89 = .ok (.ireturn, 1) := by decide +kernel
set_option maxRecDepth 20000 in
theorem ggX11_changes_X11_netAt : GoodIn wsX11_changes wsX11_netAt := goodIn_ca (goodIn_r _ [11, 12, 13, 14, 201, 202, 203, 204, 205, 206, 207, 208, 209, 210, 211, 212] (by decide +kernel) (by decide +kernel)) (goodIn_sub (fun _ h => List.mem_cons_of_mem _ (List.mem_append_left _ (List.mem_append_right _ h))) (by decide +kernel))
set_option maxRecDepth 20000 in
theorem gX11_changes_X11_netAt : GoodIn wsX11_changes (wsV RX11 91 RX11 yX11_netAt wsX11_netAt) := goodIn_app (goodIn_of _ (by decide +kernel)) ggX11_changes_X11_netAt
set_option maxRecDepth 20000 in
theorem ggX11_changes_X11_needTransition : GoodIn wsX11_changes wsX11_needTransition := goodIn_ca (goodIn_r _ [17, 18, 19, 20, 10, 21, 22, 23] (by decide +kernel) (by decide +kernel)) (goodIn_sub (fun _ h => List.mem_cons_of_mem _ (List.mem_append_right _ h)) (by decide +kernel))
set_option maxRecDepth 20000 in
theorem gX11_changes_X11_needTransition : GoodIn wsX11_changes (va_wsS RX11 218 yX11_needTransition wsX11_needTransition) := goodIn_app (goodIn_of _ (by decide +kernel)) ggX11_changes_X11_needTransition
set_option maxRecDepth 20000 in
theorem ggX11_changes_X11_prepareTransition : GoodIn wsX11_changes wsX11_prepareTransition := goodIn_r _ [27, 5, 2, 3, 4, 6, 28, 29, 30, 31, 32, 33, 34, 35, 36, 37, 38, 39, 40, 41, 42, 43, 44, 45, 46, 47, 48, 49, 50, 51, 52, 53, 54, 55, 56, 57, 58, 59, 60, 61, 62, 63, 64, 65, 66, 67, 68, 69, 70, 71, 72, 73, 74, 75, 76, 77, 78, 79, 80, 81, 82, 83, 84, 85, 86, 87, 88, 89, 90, 91, 92, 93, 94, 95, 96, 97, 98, 99, 100, 101, 102, 103, 104, 105, 10, 106, 107, 108, 109, 110, 111, 112, 113, 114, 115, 116, 117, 118, 119, 120, 121, 122, 123, 124, 125, 126, 127, 128, 129, 130, 131, 132, 133, 134, 201, 202, 203, 204, 205, 206, 207, 208, 209, 210, 211, 212, 213, 214, 215, 216, 217, 218, 219, 220, 221, 222, 223, 224, 225, 226, 227, 228, 229] (by decide +kernel) (by decide +kernel)
set_option maxRecDepth 20000 in
theorem gX11_changes_X11_prepareTransition : GoodIn wsX11_changes (wsV RX11 221 RX11 yX11_prepareTransition wsX11_prepareTransition) := goodIn_app (goodIn_of _ (by decide +kernel)) ggX11_changes_X11_prepareTransition
set_option maxRecDepth 20000 in
theorem ggX11_changes_X7_latest : GoodIn wsX11_changes wsX7_latest := goodIn_r _ [138, 33, 213, 214] (by decide +kernel) (by decide +kernel)
set_option maxRecDepth 20000 in
theorem gX11_changes_X7_latest : GoodIn wsX11_changes (wsV RX11 225 RX7 yX7_latest wsX7_latest) := goodIn_app (goodIn_of _ (by decide +kernel)) ggX11_changes_X7_latest
set_option maxRecDepth 20000 in
theorem ggX11_changes_X8_run : GoodIn wsX11_changes wsX8_run := goodIn_r _ [143, 144, 145, 37, 146, 147, 148, 40, 41, 42, 43, 44, 149, 46, 47, 48, 49, 50, 51, 52, 53, 54, 55, 150, 109, 110, 111, 112, 151, 152, 153, 78, 154, 84, 98, 99, 100, 101, 102, 103, 155, 156, 157, 142, 158, 159, 160, 114, 115, 116, 161, 68, 69, 70, 162, 163, 164, 165, 166, 167, 57, 58, 59, 60, 168, 63, 64, 65, 66, 169, 105, 10, 106, 107, 230, 231, 215, 216, 217, 218, 219, 220, 221, 222, 223, 224, 225, 226] (by decide +kernel) (by decide +kernel)
set_option maxRecDepth 20000 in
theorem gX11_changes_X8_run : GoodIn wsX11_changes (wsV RX11 228 RX8 yX8_run wsX8_run) := goodIn_app (goodIn_of _ (by decide +kernel)) ggX11_changes_X8_run
set_option maxRecDepth 20000 in
theorem ggX11_changes_X8_count : GoodIn wsX11_changes wsX8_count := goodIn_r _ [173, 148, 40, 41, 42, 43, 44, 149, 46, 47, 48, 49, 50, 51, 52, 53, 54, 55, 151, 152, 153, 78, 154, 84, 98, 99, 100, 101, 102, 103, 174, 175, 176, 177, 121, 126, 178, 179, 180, 142, 181, 147, 159, 169, 182, 183, 184, 185, 186, 187, 188, 189, 190, 191, 192, 193, 194, 130, 195, 132, 133, 196, 36, 37, 38, 134, 215, 216, 217, 218, 219, 220, 221, 222, 223, 224, 225, 226, 230, 231, 227, 228, 229] (by decide +kernel) (by decide +kernel)
set_option maxRecDepth 20000 in
theorem gX11_changes_X8_count : GoodIn wsX11_changes (wsV RX11 232 RX8 yX8_count wsX8_count) := goodIn_app (goodIn_of _ (by decide +kernel)) ggX11_changes_X8_count
set_option maxRecDepth 20000 in
theorem ggX11_changes_X5_told : GoodIn wsX11_changes wsX5_told := goodIn_r _ [200, 132, 133, 134, 227, 228, 229] (by decide +kernel) (by decide +kernel)
set_option maxRecDepth 20000 in
theorem gX11_changes_X5_told : GoodIn wsX11_changes (wsV RX11 236 RX5 yX5_told wsX5_told) := goodIn_app (goodIn_of _ (by decide +kernel)) ggX11_changes_X5_told
theorem dX11_changes_0 : decode cX11_changes 0 = .ok (.aload_n 0, 1) := by decide +kernel
theorem dX11_changes_1 : decode cX11_changes 1 = .ok (.iload_n 1, 1) := by decide +kernel
theorem dX11_changes_2 : decode cX11_changes 2 = .ok (.invokevirtual 91, 3) := by decide +kernel
theorem dX11_changes_5 : decode cX11_changes 5 = .ok (.astore 5, 2) := by decide +kernel
theorem dX11_changes_7 : decode cX11_changes 7 = .ok (.iload_n 2, 1) := by decide +kernel
theorem dX11_changes_8 : decode cX11_changes 8 = .ok (.iload_n 3, 1) := by decide +kernel
theorem dX11_changes_9 : decode cX11_changes 9 = .ok (.iload 4, 2) := by decide +kernel
theorem dX11_changes_11 : decode cX11_changes 11 = .ok (.invokestatic 218, 3) := by decide +kernel
theorem dX11_changes_14 : decode cX11_changes 14 = .ok (.aload_n 0, 1) := by decide +kernel
theorem dX11_changes_15 : decode cX11_changes 15 = .ok (.aload 5, 2) := by decide +kernel
theorem dX11_changes_17 : decode cX11_changes 17 = .ok (.iload_n 2, 1) := by decide +kernel
theorem dX11_changes_18 : decode cX11_changes 18 = .ok (.iload_n 3, 1) := by decide +kernel
theorem dX11_changes_19 : decode cX11_changes 19 = .ok (.invokevirtual 221, 3) := by decide +kernel
theorem dX11_changes_22 : decode cX11_changes 22 = .ok (.aload_n 0, 1) := by decide +kernel
theorem dX11_changes_23 : decode cX11_changes 23 = .ok (.getfield 68, 3) := by decide +kernel
theorem dX11_changes_26 : decode cX11_changes 26 = .ok (.aload 5, 2) := by decide +kernel
theorem dX11_changes_28 : decode cX11_changes 28 = .ok (.aload_n 0, 1) := by decide +kernel
theorem dX11_changes_29 : decode cX11_changes 29 = .ok (.getfield 20, 3) := by decide +kernel
theorem dX11_changes_32 : decode cX11_changes 32 = .ok (.aload_n 0, 1) := by decide +kernel
theorem dX11_changes_33 : decode cX11_changes 33 = .ok (.getfield 51, 3) := by decide +kernel
theorem dX11_changes_36 : decode cX11_changes 36 = .ok (.aload_n 0, 1) := by decide +kernel
theorem dX11_changes_37 : decode cX11_changes 37 = .ok (.getfield 55, 3) := by decide +kernel
theorem dX11_changes_40 : decode cX11_changes 40 = .ok (.aload_n 0, 1) := by decide +kernel
theorem dX11_changes_41 : decode cX11_changes 41 = .ok (.getfield 44, 3) := by decide +kernel
theorem dX11_changes_44 : decode cX11_changes 44 = .ok (.invokevirtual 225, 3) := by decide +kernel
theorem dX11_changes_47 : decode cX11_changes 47 = .ok (.invokevirtual 228, 3) := by decide +kernel
theorem dX11_changes_50 : decode cX11_changes 50 = .ok (.aload_n 0, 1) := by decide +kernel
theorem dX11_changes_51 : decode cX11_changes 51 = .ok (.getfield 68, 3) := by decide +kernel
theorem dX11_changes_54 : decode cX11_changes 54 = .ok (.aload 5, 2) := by decide +kernel
theorem dX11_changes_56 : decode cX11_changes 56 = .ok (.aload_n 0, 1) := by decide +kernel
theorem dX11_changes_57 : decode cX11_changes 57 = .ok (.getfield 51, 3) := by decide +kernel
theorem dX11_changes_60 : decode cX11_changes 60 = .ok (.aload_n 0, 1) := by decide +kernel
theorem dX11_changes_61 : decode cX11_changes 61 = .ok (.getfield 61, 3) := by decide +kernel
theorem dX11_changes_64 : decode cX11_changes 64 = .ok (.invokevirtual 232, 3) := by decide +kernel
theorem dX11_changes_67 : decode cX11_changes 67 = .ok (.aload_n 0, 1) := by decide +kernel
theorem dX11_changes_68 : decode cX11_changes 68 = .ok (.getfield 61, 3) := by decide +kernel
theorem dX11_changes_71 : decode cX11_changes 71 = .ok (.iload 4, 2) := by decide +kernel
theorem dX11_changes_73 : decode cX11_changes 73 = .ok (.invokevirtual 236, 3) := by decide +kernel
theorem dX11_changes_76 : decode cX11_changes 76 = .ok (.ireturn, 1) := by decide +kernel
set_option maxRecDepth 20000 in
theorem ggX11_changesAnew_X11_netAt : GoodIn wsX11_changesAnew wsX11_netAt := goodIn_ca (goodIn_r _ [11, 12, 13, 14, 185, 186, 187, 188, 189, 190, 191, 192, 193, 194, 195, 196] (by decide +kernel) (by decide +kernel)) (goodIn_sub (fun _ h => List.mem_cons_of_mem _ (List.mem_append_left _ (List.mem_append_right _ h))) (by decide +kernel))
set_option maxRecDepth 20000 in
theorem gX11_changesAnew_X11_netAt : GoodIn wsX11_changesAnew (wsV RX11 91 RX11 yX11_netAt wsX11_netAt) := goodIn_app (goodIn_of _ (by decide +kernel)) ggX11_changesAnew_X11_netAt
set_option maxRecDepth 20000 in
theorem ggX11_changesAnew_X11_needTransition : GoodIn wsX11_changesAnew wsX11_needTransition := goodIn_ca (goodIn_r _ [17, 18, 19, 20, 10, 21, 22, 23] (by decide +kernel) (by decide +kernel)) (goodIn_sub (fun _ h => List.mem_cons_of_mem _ (List.mem_append_right _ h)) (by decide +kernel))
set_option maxRecDepth 20000 in
theorem gX11_changesAnew_X11_needTransition : GoodIn wsX11_changesAnew (va_wsS RX11 218 yX11_needTransition wsX11_needTransition) := goodIn_app (goodIn_of _ (by decide +kernel)) ggX11_changesAnew_X11_needTransition
set_option maxRecDepth 20000 in
theorem ggX11_changesAnew_X11_prepareTransition : GoodIn wsX11_changesAnew wsX11_prepareTransition := goodIn_r _ [27, 3, 4, 2, 5, 6, 28, 29, 30, 31, 32, 33, 34, 35, 36, 37, 38, 39, 40, 41, 42, 43, 44, 45, 46, 47, 48, 49, 50, 51, 52, 53, 54, 55, 56, 57, 58, 59, 60, 61, 62, 63, 64, 65, 66, 67, 68, 69, 70, 71, 72, 73, 74, 75, 76, 77, 78, 79, 80, 81, 82, 83, 84, 85, 86, 87, 88, 89, 90, 91, 92, 93, 94, 95, 96, 97, 98, 99, 100, 101, 102, 103, 104, 105, 10, 106, 107, 108, 109, 110, 111, 112, 113, 114, 115, 116, 117, 118, 119, 120, 121, 122, 123, 124, 125, 126, 127, 128, 129, 130, 131, 132, 133, 134, 185, 186, 187, 188, 189, 190, 191, 192, 193, 194, 195, 196, 197, 198, 199, 200, 201, 202, 203, 204, 205, 206, 207, 208, 209, 210, 211, 212, 213] (by decide +kernel) (by decide +kernel)
set_option maxRecDepth 20000 in
theorem gX11_changesAnew_X11_prepareTransition : GoodIn wsX11_changesAnew (wsV RX11 221 RX11 yX11_prepareTransition wsX11_prepareTransition) := goodIn_app (goodIn_of _ (by decide +kernel)) ggX11_changesAnew_X11_prepareTransition
set_option maxRecDepth 20000 in
theorem ggX11_changesAnew_X6_begin : GoodIn wsX11_changesAnew wsX6_begin := goodIn_r _ [139, 140, 141, 40, 41, 42, 43, 44, 142, 143, 144, 78, 145, 84, 98, 99, 100, 101, 102, 103, 146, 72, 73, 53, 74, 55, 214, 199, 200, 201, 202, 203, 204, 205, 206, 208, 209, 210, 207] (by decide +kernel) (by decide +kernel)
set_option maxRecDepth 20000 in
theorem gX11_changesAnew_X6_begin : GoodIn wsX11_changesAnew (wsV RX11 239 RX6 yX6_begin wsX6_begin) := goodIn_app (goodIn_of _ (by decide +kernel)) ggX11_changesAnew_X6_begin
set_option maxRecDepth 20000 in
theorem ggX11_changesAnew_X7_latest : GoodIn wsX11_changesAnew wsX7_latest := goodIn_r _ [150, 33, 197, 198] (by decide +kernel) (by decide +kernel)
set_option maxRecDepth 20000 in
theorem gX11_changesAnew_X7_latest : GoodIn wsX11_changesAnew (wsV RX11 225 RX7 yX7_latest wsX7_latest) := goodIn_app (goodIn_of _ (by decide +kernel)) ggX11_changesAnew_X7_latest
set_option maxRecDepth 20000 in
theorem ggX11_changesAnew_X6_run : GoodIn wsX11_changesAnew wsX6_run := goodIn_r _ [154, 140, 141, 40, 41, 42, 43, 44, 155, 46, 47, 48, 49, 50, 51, 52, 53, 54, 55, 156, 109, 110, 111, 112, 157, 68, 69, 70, 158, 142, 143, 144, 78, 145, 84, 98, 99, 100, 101, 102, 103, 159, 160, 161, 138, 162, 163, 57, 58, 59, 60, 164, 165, 166, 167, 168, 169, 170, 171, 63, 64, 65, 66, 105, 10, 106, 107, 172, 173, 174, 175, 121, 126, 176, 177, 178, 130, 179, 132, 133, 180, 36, 37, 38, 134, 146, 72, 73, 74, 214, 199, 200, 201, 202, 203, 204, 205, 206, 207, 208, 209, 210, 211, 212, 213] (by decide +kernel) (by decide +kernel)
set_option maxRecDepth 20000 in
theorem gX11_changesAnew_X6_run : GoodIn wsX11_changesAnew (wsV RX11 243 RX6 yX6_run wsX6_run) := goodIn_app (goodIn_of _ (by decide +kernel)) ggX11_changesAnew_X6_run
set_option maxRecDepth 20000 in
theorem ggX11_changesAnew_X5_told : GoodIn wsX11_changesAnew wsX5_told := goodIn_r _ [184, 132, 133, 134, 211, 212, 213] (by decide +kernel) (by decide +kernel)
set_option maxRecDepth 20000 in
theorem gX11_changesAnew_X5_told : GoodIn wsX11_changesAnew (wsV RX11 236 RX5 yX5_told wsX5_told) := goodIn_app (goodIn_of _ (by decide +kernel)) ggX11_changesAnew_X5_told
theorem dX11_changesAnew_0 : decode cX11_changesAnew 0 = .ok (.aload_n 0, 1) := by decide +kernel
theorem dX11_changesAnew_1 : decode cX11_changesAnew 1 = .ok (.iload_n 1, 1) := by decide +kernel
theorem dX11_changesAnew_2 : decode cX11_changesAnew 2 = .ok (.invokevirtual 91, 3) := by decide +kernel
theorem dX11_changesAnew_5 : decode cX11_changesAnew 5 = .ok (.astore 5, 2) := by decide +kernel
theorem dX11_changesAnew_7 : decode cX11_changesAnew 7 = .ok (.iload_n 2, 1) := by decide +kernel
theorem dX11_changesAnew_8 : decode cX11_changesAnew 8 = .ok (.iload_n 3, 1) := by decide +kernel
theorem dX11_changesAnew_9 : decode cX11_changesAnew 9 = .ok (.iload 4, 2) := by decide +kernel
theorem dX11_changesAnew_11 : decode cX11_changesAnew 11 = .ok (.invokestatic 218, 3) := by decide +kernel
theorem dX11_changesAnew_14 : decode cX11_changesAnew 14 = .ok (.aload_n 0, 1) := by decide +kernel
theorem dX11_changesAnew_15 : decode cX11_changesAnew 15 = .ok (.aload 5, 2) := by decide +kernel
theorem dX11_changesAnew_17 : decode cX11_changesAnew 17 = .ok (.iload_n 2, 1) := by decide +kernel
theorem dX11_changesAnew_18 : decode cX11_changesAnew 18 = .ok (.iload_n 3, 1) := by decide +kernel
theorem dX11_changesAnew_19 : decode cX11_changesAnew 19 = .ok (.invokevirtual 221, 3) := by decide +kernel
theorem dX11_changesAnew_22 : decode cX11_changesAnew 22 = .ok (.aload_n 0, 1) := by decide +kernel
theorem dX11_changesAnew_23 : decode cX11_changesAnew 23 = .ok (.getfield 75, 3) := by decide +kernel
theorem dX11_changesAnew_26 : decode cX11_changesAnew 26 = .ok (.aload 5, 2) := by decide +kernel
theorem dX11_changesAnew_28 : decode cX11_changesAnew 28 = .ok (.aload_n 0, 1) := by decide +kernel
theorem dX11_changesAnew_29 : decode cX11_changesAnew 29 = .ok (.getfield 51, 3) := by decide +kernel
theorem dX11_changesAnew_32 : decode cX11_changesAnew 32 = .ok (.invokevirtual 239, 3) := by decide +kernel
theorem dX11_changesAnew_35 : decode cX11_changesAnew 35 = .ok (.iconst 0, 1) := by decide +kernel
theorem dX11_changesAnew_36 : decode cX11_changesAnew 36 = .ok (.istore 6, 2) := by decide +kernel
theorem dX11_changesAnew_38 : decode cX11_changesAnew 38 = .ok (.iload 6, 2) := by decide +kernel
theorem dX11_changesAnew_40 : decode cX11_changesAnew 40 = .ok (.aload_n 0, 1) := by decide +kernel
theorem dX11_changesAnew_41 : decode cX11_changesAnew 41 = .ok (.getfield 44, 3) := by decide +kernel
theorem dX11_changesAnew_44 : decode cX11_changesAnew 44 = .ok (.invokevirtual 225, 3) := by decide +kernel
theorem dX11_changesAnew_47 : decode cX11_changesAnew 47 = .ok (.if_icmp .gt 32, 3) := by decide +kernel
theorem dX11_changesAnew_50 : decode cX11_changesAnew 50 = .ok (.aload_n 0, 1) := by decide +kernel
theorem dX11_changesAnew_51 : decode cX11_changesAnew 51 = .ok (.getfield 75, 3) := by decide +kernel
theorem dX11_changesAnew_54 : decode cX11_changesAnew 54 = .ok (.aload 5, 2) := by decide +kernel
theorem dX11_changesAnew_56 : decode cX11_changesAnew 56 = .ok (.aload_n 0, 1) := by decide +kernel
theorem dX11_changesAnew_57 : decode cX11_changesAnew 57 = .ok (.getfield 20, 3) := by decide +kernel
theorem dX11_changesAnew_60 : decode cX11_changesAnew 60 = .ok (.aload_n 0, 1) := by decide +kernel
theorem dX11_changesAnew_61 : decode cX11_changesAnew 61 = .ok (.getfield 55, 3) := by decide +kernel
theorem dX11_changesAnew_64 : decode cX11_changesAnew 64 = .ok (.iload 6, 2) := by decide +kernel
theorem dX11_changesAnew_66 : decode cX11_changesAnew 66 = .ok (.aload_n 0, 1) := by decide +kernel
theorem dX11_changesAnew_67 : decode cX11_changesAnew 67 = .ok (.getfield 61, 3) := by decide +kernel
theorem dX11_changesAnew_70 : decode cX11_changesAnew 70 = .ok (.invokevirtual 243, 3) := by decide +kernel
theorem dX11_changesAnew_73 : decode cX11_changesAnew 73 = .ok (.iinc 6 1, 3) := by decide +kernel
theorem dX11_changesAnew_76 : decode cX11_changesAnew 76 = .ok (.goto (-38), 3) := by decide +kernel
theorem dX11_changesAnew_79 : decode cX11_changesAnew 79 = .ok (.aload_n 0, 1) := by decide +kernel
theorem dX11_changesAnew_80 : decode cX11_changesAnew 80 = .ok (.getfield 61, 3) := by decide +kernel
theorem dX11_changesAnew_83 : decode cX11_changesAnew 83 = .ok (.iload 4, 2) := by decide +kernel
theorem dX11_changesAnew_85 : decode cX11_changesAnew 85 = .ok (.invokevirtual 236, 3) := by decide +kernel
theorem dX11_changesAnew_88 : decode cX11_changesAnew 88 = .ok (.ireturn, 1) := by decide +kernel
set_option maxRecDepth 20000 in
theorem ggX11_off_X11_netAt : GoodIn wsX11_off wsX11_netAt := goodIn_ca (goodIn_r _ [7, 8, 9, 10, 144, 145, 146, 147, 148, 149, 150, 151, 152, 153, 154, 155] (by decide +kernel) (by decide +kernel)) (goodIn_sub (fun _ h => List.mem_cons_of_mem _ (List.mem_append_left _ (List.mem_append_left _ (List.mem_append_right _ h)))) (by decide +kernel))
set_option maxRecDepth 20000 in
theorem gX11_off_X11_netAt : GoodIn wsX11_off (wsV RX11 91 RX11 yX11_netAt wsX11_netAt) := goodIn_app (goodIn_of _ (by decide +kernel)) ggX11_off_X11_netAt
set_option maxRecDepth 20000 in
theorem ggX11_off_X11_needRange : GoodIn wsX11_off wsX11_needRange := goodIn_ca (goodIn_r _ [13, 14, 15] (by decide +kernel) (by decide +kernel)) (goodIn_sub (fun _ h => List.mem_cons_of_mem _ (List.mem_append_left _ (List.mem_append_right _ h))) (by decide +kernel))
set_option maxRecDepth 20000 in
theorem gX11_off_X11_needRange : GoodIn wsX11_off (va_wsS RX11 135 yX11_needRange wsX11_needRange) := goodIn_app (goodIn_of _ (by decide +kernel)) ggX11_off_X11_needRange
set_option maxRecDepth 20000 in
theorem ggX11_off_X11_needTwoOperands : GoodIn wsX11_off wsX11_needTwoOperands := goodIn_ca (goodIn_r _ [18, 19, 20, 21, 22, 23, 24, 25, 26, 156, 157, 158, 159, 160, 161, 162, 163] (by decide +kernel) (by decide +kernel)) (goodIn_sub (fun _ h => List.mem_cons_of_mem _ (List.mem_append_right _ h)) (by decide +kernel))
set_option maxRecDepth 20000 in
theorem gX11_off_X11_needTwoOperands : GoodIn wsX11_off (va_wsS RX11 246 yX11_needTwoOperands wsX11_needTwoOperands) := goodIn_app (goodIn_of _ (by decide +kernel)) ggX11_off_X11_needTwoOperands
set_option maxRecDepth 20000 in
theorem ggX11_off_X0_hold : GoodIn wsX11_off wsX0_hold := goodIn_r _ [31, 32, 33, 34, 35, 36, 37, 38, 39, 40, 41, 30, 42, 43, 44, 45, 46, 47, 48, 22, 23, 24, 25, 26, 49, 50, 51, 52, 53, 54, 55, 56, 57, 58, 59, 60, 61, 62, 63, 64, 65, 66, 67, 68, 69, 70, 71, 72, 73, 74, 75, 76, 77, 78, 79, 80, 81, 82, 83, 84, 85, 86, 87, 88, 89, 90, 91, 92, 93, 94, 95, 96, 97, 98, 99, 100, 101, 102, 103, 104, 6, 105, 106, 107, 108, 109, 110, 111, 112, 113, 114, 115, 116, 117, 118, 119, 120, 121, 122, 123, 124, 125, 126, 127, 128, 129, 130, 131, 132, 133, 134, 135, 136, 137, 138, 139, 164, 165, 166, 167, 168, 156, 157, 158, 159, 160, 161, 162, 163, 169, 170, 171, 172] (by decide +kernel) (by decide +kernel)
set_option maxRecDepth 20000 in
theorem gX11_off_X0_hold : GoodIn wsX11_off (wsV RX11 249 RX0 yX0_hold wsX0_hold) := goodIn_app (goodIn_of _ (by decide +kernel)) ggX11_off_X0_hold
set_option maxRecDepth 20000 in
theorem ggX11_off_X0_told : GoodIn wsX11_off wsX0_told := goodIn_r _ [143, 43, 44, 45, 46, 164, 165, 166, 167, 168] (by decide +kernel) (by decide +kernel)
set_option maxRecDepth 20000 in
theorem gX11_off_X0_told : GoodIn wsX11_off (wsV RX11 253 RX0 yX0_told wsX0_told) := goodIn_app (goodIn_of _ (by decide +kernel)) ggX11_off_X0_told
theorem dX11_off_0 : decode cX11_off 0 = .ok (.aload_n 0, 1) := by decide +kernel
theorem dX11_off_1 : decode cX11_off 1 = .ok (.iload_n 1, 1) := by decide +kernel
theorem dX11_off_2 : decode cX11_off 2 = .ok (.invokevirtual 91, 3) := by decide +kernel
theorem dX11_off_5 : decode cX11_off 5 = .ok (.astore 4, 2) := by decide +kernel
theorem dX11_off_7 : decode cX11_off 7 = .ok (.iload_n 2, 1) := by decide +kernel
theorem dX11_off_8 : decode cX11_off 8 = .ok (.iconst 0, 1) := by decide +kernel
theorem dX11_off_9 : decode cX11_off 9 = .ok (.iconst 1, 1) := by decide +kernel
theorem dX11_off_10 : decode cX11_off 10 = .ok (.invokestatic 135, 3) := by decide +kernel
theorem dX11_off_13 : decode cX11_off 13 = .ok (.iload_n 3, 1) := by decide +kernel
theorem dX11_off_14 : decode cX11_off 14 = .ok (.iconst 0, 1) := by decide +kernel
theorem dX11_off_15 : decode cX11_off 15 = .ok (.iconst 3, 1) := by decide +kernel
theorem dX11_off_16 : decode cX11_off 16 = .ok (.invokestatic 135, 3) := by decide +kernel
theorem dX11_off_19 : decode cX11_off 19 = .ok (.aload 4, 2) := by decide +kernel
theorem dX11_off_21 : decode cX11_off 21 = .ok (.invokestatic 246, 3) := by decide +kernel
theorem dX11_off_24 : decode cX11_off 24 = .ok (.aload_n 0, 1) := by decide +kernel
theorem dX11_off_25 : decode cX11_off 25 = .ok (.getfield 82, 3) := by decide +kernel
theorem dX11_off_28 : decode cX11_off 28 = .ok (.aload 4, 2) := by decide +kernel
theorem dX11_off_30 : decode cX11_off 30 = .ok (.aload_n 0, 1) := by decide +kernel
theorem dX11_off_31 : decode cX11_off 31 = .ok (.getfield 51, 3) := by decide +kernel
theorem dX11_off_34 : decode cX11_off 34 = .ok (.iload_n 2, 1) := by decide +kernel
theorem dX11_off_35 : decode cX11_off 35 = .ok (.iconst 1, 1) := by decide +kernel
theorem dX11_off_36 : decode cX11_off 36 = .ok (.invokevirtual 249, 3) := by decide +kernel
theorem dX11_off_39 : decode cX11_off 39 = .ok (.aload_n 0, 1) := by decide +kernel
theorem dX11_off_40 : decode cX11_off 40 = .ok (.getfield 82, 3) := by decide +kernel
theorem dX11_off_43 : decode cX11_off 43 = .ok (.iload_n 3, 1) := by decide +kernel
theorem dX11_off_44 : decode cX11_off 44 = .ok (.invokevirtual 253, 3) := by decide +kernel
theorem dX11_off_47 : decode cX11_off 47 = .ok (.ireturn, 1) := by decide +kernel
set_option maxRecDepth 20000 in
theorem ggX11_unseen_X11_netAt : GoodIn wsX11_unseen wsX11_netAt := goodIn_ca (goodIn_r _ [7, 8, 9, 10, 144, 145, 146, 147, 148, 149, 150, 151, 152, 153, 154, 155] (by decide +kernel) (by decide +kernel)) (goodIn_sub (fun _ h => List.mem_cons_of_mem _ (List.mem_append_left _ (List.mem_append_left _ (List.mem_append_right _ h)))) (by decide +kernel))
set_option maxRecDepth 20000 in
theorem gX11_unseen_X11_netAt : GoodIn wsX11_unseen (wsV RX11 91 RX11 yX11_netAt wsX11_netAt) := goodIn_app (goodIn_of _ (by decide +kernel)) ggX11_unseen_X11_netAt
set_option maxRecDepth 20000 in
theorem ggX11_unseen_X11_needRange : GoodIn wsX11_unseen wsX11_needRange := goodIn_ca (goodIn_r _ [13, 14, 15] (by decide +kernel) (by decide +kernel)) (goodIn_sub (fun _ h => List.mem_cons_of_mem _ (List.mem_append_left _ (List.mem_append_right _ h))) (by decide +kernel))
set_option maxRecDepth 20000 in
theorem gX11_unseen_X11_needRange : GoodIn wsX11_unseen (va_wsS RX11 135 yX11_needRange wsX11_needRange) := goodIn_app (goodIn_of _ (by decide +kernel)) ggX11_unseen_X11_needRange
set_option maxRecDepth 20000 in
theorem ggX11_unseen_X11_needTwoOperands : GoodIn wsX11_unseen wsX11_needTwoOperands := goodIn_ca (goodIn_r _ [18, 19, 20, 21, 22, 23, 24, 25, 26, 156, 157, 158, 159, 160, 161, 162, 163] (by decide +kernel) (by decide +kernel)) (goodIn_sub (fun _ h => List.mem_cons_of_mem _ (List.mem_append_right _ h)) (by decide +kernel))
set_option maxRecDepth 20000 in
theorem gX11_unseen_X11_needTwoOperands : GoodIn wsX11_unseen (va_wsS RX11 246 yX11_needTwoOperands wsX11_needTwoOperands) := goodIn_app (goodIn_of _ (by decide +kernel)) ggX11_unseen_X11_needTwoOperands
set_option maxRecDepth 20000 in
theorem ggX11_unseen_X0_hold : GoodIn wsX11_unseen wsX0_hold := goodIn_r _ [31, 32, 33, 34, 35, 36, 37, 38, 39, 40, 41, 30, 42, 43, 44, 45, 46, 47, 48, 22, 23, 24, 25, 26, 49, 50, 51, 52, 53, 54, 55, 56, 57, 58, 59, 60, 61, 62, 63, 64, 65, 66, 67, 68, 69, 70, 71, 72, 73, 74, 75, 76, 77, 78, 79, 80, 81, 82, 83, 84, 85, 86, 87, 88, 89, 90, 91, 92, 93, 94, 95, 96, 97, 98, 99, 100, 101, 102, 103, 104, 6, 105, 106, 107, 108, 109, 110, 111, 112, 113, 114, 115, 116, 117, 118, 119, 120, 121, 122, 123, 124, 125, 126, 127, 128, 129, 130, 131, 132, 133, 134, 135, 136, 137, 138, 139, 164, 165, 166, 167, 168, 156, 157, 158, 159, 160, 161, 162, 163, 169, 170, 171, 172] (by decide +kernel) (by decide +kernel)
set_option maxRecDepth 20000 in
theorem gX11_unseen_X0_hold : GoodIn wsX11_unseen (wsV RX11 249 RX0 yX0_hold wsX0_hold) := goodIn_app (goodIn_of _ (by decide +kernel)) ggX11_unseen_X0_hold
set_option maxRecDepth 20000 in
theorem ggX11_unseen_X0_unseenCount : GoodIn wsX11_unseen wsX0_unseenCount := goodIn_r _ [143, 47, 164, 165, 166, 167, 168] (by decide +kernel) (by decide +kernel)
set_option maxRecDepth 20000 in
theorem gX11_unseen_X0_unseenCount : GoodIn wsX11_unseen (wsV RX11 254 RX0 yX0_unseenCount wsX0_unseenCount) := goodIn_app (goodIn_of _ (by decide +kernel)) ggX11_unseen_X0_unseenCount
theorem dX11_unseen_0 : decode cX11_unseen 0 = .ok (.aload_n 0, 1) := by decide +kernel
theorem dX11_unseen_1 : decode cX11_unseen 1 = .ok (.iload_n 1, 1) := by decide +kernel
theorem dX11_unseen_2 : decode cX11_unseen 2 = .ok (.invokevirtual 91, 3) := by decide +kernel
theorem dX11_unseen_5 : decode cX11_unseen 5 = .ok (.astore 4, 2) := by decide +kernel
theorem dX11_unseen_7 : decode cX11_unseen 7 = .ok (.iload_n 2, 1) := by decide +kernel
theorem dX11_unseen_8 : decode cX11_unseen 8 = .ok (.iconst 0, 1) := by decide +kernel
theorem dX11_unseen_9 : decode cX11_unseen 9 = .ok (.iconst 1, 1) := by decide +kernel
theorem dX11_unseen_10 : decode cX11_unseen 10 = .ok (.invokestatic 135, 3) := by decide +kernel
theorem dX11_unseen_13 : decode cX11_unseen 13 = .ok (.iload_n 3, 1) := by decide +kernel
theorem dX11_unseen_14 : decode cX11_unseen 14 = .ok (.iconst 2, 1) := by decide +kernel
theorem dX11_unseen_15 : decode cX11_unseen 15 = .ok (.bipush 99, 2) := by decide +kernel
theorem dX11_unseen_17 : decode cX11_unseen 17 = .ok (.invokestatic 135, 3) := by decide +kernel
theorem dX11_unseen_20 : decode cX11_unseen 20 = .ok (.aload 4, 2) := by decide +kernel
theorem dX11_unseen_22 : decode cX11_unseen 22 = .ok (.invokestatic 246, 3) := by decide +kernel
theorem dX11_unseen_25 : decode cX11_unseen 25 = .ok (.aload_n 0, 1) := by decide +kernel
theorem dX11_unseen_26 : decode cX11_unseen 26 = .ok (.getfield 82, 3) := by decide +kernel
theorem dX11_unseen_29 : decode cX11_unseen 29 = .ok (.aload 4, 2) := by decide +kernel
theorem dX11_unseen_31 : decode cX11_unseen 31 = .ok (.aload_n 0, 1) := by decide +kernel
theorem dX11_unseen_32 : decode cX11_unseen 32 = .ok (.getfield 51, 3) := by decide +kernel
theorem dX11_unseen_35 : decode cX11_unseen 35 = .ok (.iload_n 2, 1) := by decide +kernel
theorem dX11_unseen_36 : decode cX11_unseen 36 = .ok (.iload_n 3, 1) := by decide +kernel
theorem dX11_unseen_37 : decode cX11_unseen 37 = .ok (.invokevirtual 249, 3) := by decide +kernel
theorem dX11_unseen_40 : decode cX11_unseen 40 = .ok (.aload_n 0, 1) := by decide +kernel
theorem dX11_unseen_41 : decode cX11_unseen 41 = .ok (.getfield 82, 3) := by decide +kernel
theorem dX11_unseen_44 : decode cX11_unseen 44 = .ok (.invokevirtual 254, 3) := by decide +kernel
theorem dX11_unseen_47 : decode cX11_unseen 47 = .ok (.ireturn, 1) := by decide +kernel
set_option maxRecDepth 20000 in
theorem ggX11_unlike_X11_netAt : GoodIn wsX11_unlike wsX11_netAt := goodIn_ca (goodIn_r _ [13, 14, 15, 16, 104, 105, 106, 107, 108, 109, 110, 111, 112, 113, 114, 115] (by decide +kernel) (by decide +kernel)) (goodIn_sub (fun _ h => List.mem_cons_of_mem _ (List.mem_append_right _ h)) (by decide +kernel))
set_option maxRecDepth 20000 in
theorem gX11_unlike_X11_netAt : GoodIn wsX11_unlike (wsV RX11 91 RX11 yX11_netAt wsX11_netAt) := goodIn_app (goodIn_of _ (by decide +kernel)) ggX11_unlike_X11_netAt
set_option maxRecDepth 20000 in
theorem ggX11_unlike_X3_inputCount : GoodIn wsX11_unlike wsX3_inputCount := goodIn_r _ [21, 22, 116, 117, 118, 119, 120, 121, 122, 123] (by decide +kernel) (by decide +kernel)
set_option maxRecDepth 20000 in
theorem gX11_unlike_X3_inputCount : GoodIn wsX11_unlike (wsV RX11 99 RX3 yX3_inputCount wsX3_inputCount) := goodIn_app (goodIn_of _ (by decide +kernel)) ggX11_unlike_X3_inputCount
set_option maxRecDepth 20000 in
theorem ggX11_unlike_X1_fillFrom : GoodIn wsX11_unlike wsX1_fillFrom := goodIn_r _ [27, 28, 29, 30, 26, 31, 32, 33, 34, 35, 36, 20, 37, 38, 39, 40, 41, 42, 43, 44, 45, 46, 47, 48, 49, 50, 51, 52, 53, 54, 55, 56, 57, 58, 59, 60, 61, 62, 63, 64, 65, 66, 67, 68, 69, 70, 71, 72, 73, 74, 75, 76, 77, 78, 12, 79, 80, 81, 82, 83, 84, 85, 86, 87, 88, 89, 90, 91, 92, 93, 94, 95, 96, 97, 98, 99, 124, 125, 116, 117, 118, 119, 120, 121, 122, 123, 126, 127] (by decide +kernel) (by decide +kernel)
set_option maxRecDepth 20000 in
theorem gX11_unlike_X1_fillFrom : GoodIn wsX11_unlike (wsV RX11 259 RX1 yX1_fillFrom wsX1_fillFrom) := goodIn_app (goodIn_of _ (by decide +kernel)) ggX11_unlike_X1_fillFrom
set_option maxRecDepth 20000 in
theorem ggX11_unlike_X1_firstUnlike : GoodIn wsX11_unlike wsX1_firstUnlike := goodIn_r _ [103, 33, 67, 68, 69, 70, 71, 72, 124, 125, 127] (by decide +kernel) (by decide +kernel)
set_option maxRecDepth 20000 in
theorem gX11_unlike_X1_firstUnlike : GoodIn wsX11_unlike (wsV RX11 268 RX1 yX1_firstUnlike wsX1_firstUnlike) := goodIn_app (goodIn_of _ (by decide +kernel)) ggX11_unlike_X1_firstUnlike
theorem dX11_unlike_0 : decode cX11_unlike 0 = .ok (.aload_n 0, 1) := by decide +kernel
theorem dX11_unlike_1 : decode cX11_unlike 1 = .ok (.iload_n 1, 1) := by decide +kernel
theorem dX11_unlike_2 : decode cX11_unlike 2 = .ok (.invokevirtual 91, 3) := by decide +kernel
theorem dX11_unlike_5 : decode cX11_unlike 5 = .ok (.astore_n 3, 1) := by decide +kernel
theorem dX11_unlike_6 : decode cX11_unlike 6 = .ok (.aload_n 0, 1) := by decide +kernel
theorem dX11_unlike_7 : decode cX11_unlike 7 = .ok (.iload_n 2, 1) := by decide +kernel
theorem dX11_unlike_8 : decode cX11_unlike 8 = .ok (.invokevirtual 91, 3) := by decide +kernel
theorem dX11_unlike_11 : decode cX11_unlike 11 = .ok (.astore 4, 2) := by decide +kernel
theorem dX11_unlike_13 : decode cX11_unlike 13 = .ok (.aload_n 3, 1) := by decide +kernel
theorem dX11_unlike_14 : decode cX11_unlike 14 = .ok (.invokevirtual 99, 3) := by decide +kernel
theorem dX11_unlike_17 : decode cX11_unlike 17 = .ok (.aload 4, 2) := by decide +kernel
theorem dX11_unlike_19 : decode cX11_unlike 19 = .ok (.invokevirtual 99, 3) := by decide +kernel
theorem dX11_unlike_22 : decode cX11_unlike 22 = .ok (.if_icmp .ne 12, 3) := by decide +kernel
theorem dX11_unlike_25 : decode cX11_unlike 25 = .ok (.aload_n 3, 1) := by decide +kernel
theorem dX11_unlike_26 : decode cX11_unlike 26 = .ok (.invokevirtual 99, 3) := by decide +kernel
theorem dX11_unlike_29 : decode cX11_unlike 29 = .ok (.bipush 12, 2) := by decide +kernel
theorem dX11_unlike_31 : decode cX11_unlike 31 = .ok (.if_icmp .le 14, 3) := by decide +kernel
theorem dX11_unlike_34 : decode cX11_unlike 34 = .ok (.new 103, 3) := by decide +kernel
theorem dX11_unlike_37 : decode cX11_unlike 37 = .ok (.dup, 1) := by decide +kernel
theorem dX11_unlike_38 : decode cX11_unlike 38 = .ok (.ldc_w 257, 3) := by decide +kernel
theorem dX11_unlike_41 : decode cX11_unlike 41 = .ok (.invokespecial 107, 3) := by decide +kernel
theorem dX11_unlike_44 : decode cX11_unlike 44 = .ok (.athrow, 1) := by decide +kernel
theorem dX11_unlike_45 : decode cX11_unlike 45 = .ok (.iconst 1, 1) := by decide +kernel
theorem dX11_unlike_46 : decode cX11_unlike 46 = .ok (.aload_n 3, 1) := by decide +kernel
theorem dX11_unlike_47 : decode cX11_unlike 47 = .ok (.invokevirtual 99, 3) := by decide +kernel
theorem dX11_unlike_50 : decode cX11_unlike 50 = .ok (.ishl, 1) := by decide +kernel
theorem dX11_unlike_51 : decode cX11_unlike 51 = .ok (.istore 5, 2) := by decide +kernel
theorem dX11_unlike_53 : decode cX11_unlike 53 = .ok (.iconst 0, 1) := by decide +kernel
theorem dX11_unlike_54 : decode cX11_unlike 54 = .ok (.istore 6, 2) := by decide +kernel
theorem dX11_unlike_56 : decode cX11_unlike 56 = .ok (.iload 6, 2) := by decide +kernel
theorem dX11_unlike_58 : decode cX11_unlike 58 = .ok (.iload 5, 2) := by decide +kernel
theorem dX11_unlike_60 : decode cX11_unlike 60 = .ok (.if_icmp .ge 65, 3) := by decide +kernel
theorem dX11_unlike_63 : decode cX11_unlike 63 = .ok (.aload_n 0, 1) := by decide +kernel
theorem dX11_unlike_64 : decode cX11_unlike 64 = .ok (.getfield 51, 3) := by decide +kernel
theorem dX11_unlike_67 : decode cX11_unlike 67 = .ok (.aload_n 3, 1) := by decide +kernel
theorem dX11_unlike_68 : decode cX11_unlike 68 = .ok (.iload 6, 2) := by decide +kernel
theorem dX11_unlike_70 : decode cX11_unlike 70 = .ok (.invokevirtual 259, 3) := by decide +kernel
theorem dX11_unlike_73 : decode cX11_unlike 73 = .ok (.aload_n 0, 1) := by decide +kernel
theorem dX11_unlike_74 : decode cX11_unlike 74 = .ok (.getfield 55, 3) := by decide +kernel
theorem dX11_unlike_77 : decode cX11_unlike 77 = .ok (.aload 4, 2) := by decide +kernel
theorem dX11_unlike_79 : decode cX11_unlike 79 = .ok (.iload 6, 2) := by decide +kernel
theorem dX11_unlike_81 : decode cX11_unlike 81 = .ok (.invokevirtual 259, 3) := by decide +kernel
theorem dX11_unlike_84 : decode cX11_unlike 84 = .ok (.aload_n 0, 1) := by decide +kernel
theorem dX11_unlike_85 : decode cX11_unlike 85 = .ok (.getfield 51, 3) := by decide +kernel
theorem dX11_unlike_88 : decode cX11_unlike 88 = .ok (.aload_n 0, 1) := by decide +kernel
theorem dX11_unlike_89 : decode cX11_unlike 89 = .ok (.getfield 55, 3) := by decide +kernel
theorem dX11_unlike_92 : decode cX11_unlike 92 = .ok (.bipush 64, 2) := by decide +kernel
theorem dX11_unlike_94 : decode cX11_unlike 94 = .ok (.iload 5, 2) := by decide +kernel
theorem dX11_unlike_96 : decode cX11_unlike 96 = .ok (.iload 6, 2) := by decide +kernel
theorem dX11_unlike_98 : decode cX11_unlike 98 = .ok (.isub, 1) := by decide +kernel
theorem dX11_unlike_99 : decode cX11_unlike 99 = .ok (.invokestatic 262, 3) := by decide +kernel
theorem dX11_unlike_102 : decode cX11_unlike 102 = .ok (.invokevirtual 268, 3) := by decide +kernel
theorem dX11_unlike_105 : decode cX11_unlike 105 = .ok (.istore 7, 2) := by decide +kernel
theorem dX11_unlike_107 : decode cX11_unlike 107 = .ok (.iload 7, 2) := by decide +kernel
theorem dX11_unlike_109 : decode cX11_unlike 109 = .ok (.iconst (-1), 1) := by decide +kernel
theorem dX11_unlike_110 : decode cX11_unlike 110 = .ok (.if_icmp .eq 9, 3) := by decide +kernel
theorem dX11_unlike_113 : decode cX11_unlike 113 = .ok (.iload 6, 2) := by decide +kernel
theorem dX11_unlike_115 : decode cX11_unlike 115 = .ok (.iload 7, 2) := by decide +kernel
theorem dX11_unlike_117 : decode cX11_unlike 117 = .ok (.iadd, 1) := by decide +kernel
theorem dX11_unlike_118 : decode cX11_unlike 118 = .ok (.ireturn, 1) := by decide +kernel
theorem dX11_unlike_119 : decode cX11_unlike 119 = .ok (.iinc 6 64, 3) := by decide +kernel
theorem dX11_unlike_122 : decode cX11_unlike 122 = .ok (.goto (-66), 3) := by decide +kernel
theorem dX11_unlike_125 : decode cX11_unlike 125 = .ok (.iconst (-1), 1) := by decide +kernel
theorem dX11_unlike_126 : decode cX11_unlike 126 = .ok (.ireturn, 1) := by decide +kernel
set_option maxRecDepth 20000 in
theorem ggX11_digit_X11_needRange : GoodIn wsX11_digit wsX11_needRange := goodIn_ca (goodIn_r _ [7, 8, 9] (by decide +kernel) (by decide +kernel)) (goodIn_sub (fun _ h => List.mem_cons_of_mem _ (List.mem_append_right _ h)) (by decide +kernel))
set_option maxRecDepth 20000 in
theorem gX11_digit_X11_needRange : GoodIn wsX11_digit (va_wsS RX11 135 yX11_needRange wsX11_needRange) := goodIn_app (goodIn_of _ (by decide +kernel)) ggX11_digit_X11_needRange
theorem dX11_digit_0 : decode cX11_digit 0 = .ok (.iload_n 2, 1) := by decide +kernel
theorem dX11_digit_1 : decode cX11_digit 1 = .ok (.ifCond .lt 9, 3) := by decide +kernel
theorem dX11_digit_4 : decode cX11_digit 4 = .ok (.iload_n 2, 1) := by decide +kernel
theorem dX11_digit_5 : decode cX11_digit 5 = .ok (.bipush 15, 2) := by decide +kernel
theorem dX11_digit_7 : decode cX11_digit 7 = .ok (.if_icmp .le 13, 3) := by decide +kernel
theorem dX11_digit_10 : decode cX11_digit 10 = .ok (.new 206, 3) := by decide +kernel
theorem dX11_digit_13 : decode cX11_digit 13 = .ok (.dup, 1) := by decide +kernel
theorem dX11_digit_14 : decode cX11_digit 14 = .ok (.ldc 208, 2) := by decide +kernel
theorem dX11_digit_16 : decode cX11_digit 16 = .ok (.invokespecial 210, 3) := by decide +kernel
theorem dX11_digit_19 : decode cX11_digit 19 = .ok (.athrow, 1) := by decide +kernel
theorem dX11_digit_20 : decode cX11_digit 20 = .ok (.iload_n 1, 1) := by decide +kernel
theorem dX11_digit_21 : decode cX11_digit 21 = .ok (.iconst 0, 1) := by decide +kernel
theorem dX11_digit_22 : decode cX11_digit 22 = .ok (.ldc_w 272, 3) := by decide +kernel
theorem dX11_digit_25 : decode cX11_digit 25 = .ok (.invokestatic 135, 3) := by decide +kernel
theorem dX11_digit_28 : decode cX11_digit 28 = .ok (.iconst 2, 1) := by decide +kernel
theorem dX11_digit_29 : decode cX11_digit 29 = .ok (.iload_n 2, 1) := by decide +kernel
theorem dX11_digit_30 : decode cX11_digit 30 = .ok (.imul, 1) := by decide +kernel
theorem dX11_digit_31 : decode cX11_digit 31 = .ok (.istore_n 3, 1) := by decide +kernel
theorem dX11_digit_32 : decode cX11_digit 32 = .ok (.iload_n 3, 1) := by decide +kernel
theorem dX11_digit_33 : decode cX11_digit 33 = .ok (.ifCond .ne 7, 3) := by decide +kernel
theorem dX11_digit_36 : decode cX11_digit 36 = .ok (.iconst 0, 1) := by decide +kernel
theorem dX11_digit_37 : decode cX11_digit 37 = .ok (.goto 10, 3) := by decide +kernel
theorem dX11_digit_40 : decode cX11_digit 40 = .ok (.iload_n 1, 1) := by decide +kernel
theorem dX11_digit_41 : decode cX11_digit 41 = .ok (.iload_n 3, 1) := by decide +kernel
theorem dX11_digit_42 : decode cX11_digit 42 = .ok (.iconst 1, 1) := by decide +kernel
theorem dX11_digit_43 : decode cX11_digit 43 = .ok (.isub, 1) := by decide +kernel
theorem dX11_digit_44 : decode cX11_digit 44 = .ok (.ishr, 1) := by decide +kernel
theorem dX11_digit_45 : decode cX11_digit 45 = .ok (.iconst 1, 1) := by decide +kernel
theorem dX11_digit_46 : decode cX11_digit 46 = .ok (.iand, 1) := by decide +kernel
theorem dX11_digit_47 : decode cX11_digit 47 = .ok (.istore 4, 2) := by decide +kernel
theorem dX11_digit_49 : decode cX11_digit 49 = .ok (.iload_n 1, 1) := by decide +kernel
theorem dX11_digit_50 : decode cX11_digit 50 = .ok (.iload_n 3, 1) := by decide +kernel
theorem dX11_digit_51 : decode cX11_digit 51 = .ok (.ishr, 1) := by decide +kernel
theorem dX11_digit_52 : decode cX11_digit 52 = .ok (.iconst 1, 1) := by decide +kernel
theorem dX11_digit_53 : decode cX11_digit 53 = .ok (.iand, 1) := by decide +kernel
theorem dX11_digit_54 : decode cX11_digit 54 = .ok (.iload 4, 2) := by decide +kernel
theorem dX11_digit_56 : decode cX11_digit 56 = .ok (.iadd, 1) := by decide +kernel
theorem dX11_digit_57 : decode cX11_digit 57 = .ok (.iconst 2, 1) := by decide +kernel
theorem dX11_digit_58 : decode cX11_digit 58 = .ok (.iload_n 1, 1) := by decide +kernel
theorem dX11_digit_59 : decode cX11_digit 59 = .ok (.iload_n 3, 1) := by decide +kernel
theorem dX11_digit_60 : decode cX11_digit 60 = .ok (.iconst 1, 1) := by decide +kernel
theorem dX11_digit_61 : decode cX11_digit 61 = .ok (.iadd, 1) := by decide +kernel
theorem dX11_digit_62 : decode cX11_digit 62 = .ok (.ishr, 1) := by decide +kernel
theorem dX11_digit_63 : decode cX11_digit 63 = .ok (.iconst 1, 1) := by decide +kernel
theorem dX11_digit_64 : decode cX11_digit 64 = .ok (.iand, 1) := by decide +kernel
theorem dX11_digit_65 : decode cX11_digit 65 = .ok (.imul, 1) := by decide +kernel
theorem dX11_digit_66 : decode cX11_digit 66 = .ok (.isub, 1) := by decide +kernel
theorem dX11_digit_67 : decode cX11_digit 67 = .ok (.ireturn, 1) := by decide +kernel
theorem dX11_netAt_0 : decode cX11_netAt 0 = .ok (.iload_n 1, 1) := by decide +kernel
theorem dX11_netAt_1 : decode cX11_netAt 1 = .ok (.ifCond .lt 21, 3) := by decide +kernel
theorem dX11_netAt_4 : decode cX11_netAt 4 = .ok (.iload_n 1, 1) := by decide +kernel
theorem dX11_netAt_5 : decode cX11_netAt 5 = .ok (.aload_n 0, 1) := by decide +kernel
theorem dX11_netAt_6 : decode cX11_netAt 6 = .ok (.getfield 11, 3) := by decide +kernel
theorem dX11_netAt_9 : decode cX11_netAt 9 = .ok (.arraylength, 1) := by decide +kernel
theorem dX11_netAt_10 : decode cX11_netAt 10 = .ok (.if_icmp .ge 12, 3) := by decide +kernel
theorem dX11_netAt_13 : decode cX11_netAt 13 = .ok (.aload_n 0, 1) := by decide +kernel
theorem dX11_netAt_14 : decode cX11_netAt 14 = .ok (.getfield 11, 3) := by decide +kernel
theorem dX11_netAt_17 : decode cX11_netAt 17 = .ok (.iload_n 1, 1) := by decide +kernel
theorem dX11_netAt_18 : decode cX11_netAt 18 = .ok (.aaload, 1) := by decide +kernel
theorem dX11_netAt_19 : decode cX11_netAt 19 = .ok (.ifnonnull 14, 3) := by decide +kernel
theorem dX11_netAt_22 : decode cX11_netAt 22 = .ok (.new 206, 3) := by decide +kernel
theorem dX11_netAt_25 : decode cX11_netAt 25 = .ok (.dup, 1) := by decide +kernel
theorem dX11_netAt_26 : decode cX11_netAt 26 = .ok (.ldc_w 273, 3) := by decide +kernel
theorem dX11_netAt_29 : decode cX11_netAt 29 = .ok (.invokespecial 210, 3) := by decide +kernel
theorem dX11_netAt_32 : decode cX11_netAt 32 = .ok (.athrow, 1) := by decide +kernel
theorem dX11_netAt_33 : decode cX11_netAt 33 = .ok (.aload_n 0, 1) := by decide +kernel
theorem dX11_netAt_34 : decode cX11_netAt 34 = .ok (.getfield 11, 3) := by decide +kernel
theorem dX11_netAt_37 : decode cX11_netAt 37 = .ok (.iload_n 1, 1) := by decide +kernel
theorem dX11_netAt_38 : decode cX11_netAt 38 = .ok (.aaload, 1) := by decide +kernel
theorem dX11_netAt_39 : decode cX11_netAt 39 = .ok (.areturn, 1) := by decide +kernel
theorem dX11_needKind_0 : decode cX11_needKind 0 = .ok (.iload_n 0, 1) := by decide +kernel
theorem dX11_needKind_1 : decode cX11_needKind 1 = .ok (.ifCond .lt 8, 3) := by decide +kernel
theorem dX11_needKind_4 : decode cX11_needKind 4 = .ok (.iload_n 0, 1) := by decide +kernel
theorem dX11_needKind_5 : decode cX11_needKind 5 = .ok (.iconst 3, 1) := by decide +kernel
theorem dX11_needKind_6 : decode cX11_needKind 6 = .ok (.if_icmp .le 14, 3) := by decide +kernel
theorem dX11_needKind_9 : decode cX11_needKind 9 = .ok (.new 206, 3) := by decide +kernel
theorem dX11_needKind_12 : decode cX11_needKind 12 = .ok (.dup, 1) := by decide +kernel
theorem dX11_needKind_13 : decode cX11_needKind 13 = .ok (.ldc_w 275, 3) := by decide +kernel
theorem dX11_needKind_16 : decode cX11_needKind 16 = .ok (.invokespecial 210, 3) := by decide +kernel
theorem dX11_needKind_19 : decode cX11_needKind 19 = .ok (.athrow, 1) := by decide +kernel
theorem dX11_needKind_20 : decode cX11_needKind 20 = .ok (.return_, 1) := by decide +kernel
set_option maxRecDepth 20000 in
theorem ggX11_needGate_X3_has : GoodIn wsX11_needGate wsX3_has := goodIn_r _ [7, 8, 9, 10, 11, 12, 13, 14, 15, 16] (by decide +kernel) (by decide +kernel)
set_option maxRecDepth 20000 in
theorem gX11_needGate_X3_has : GoodIn wsX11_needGate (wsV RX11 277 RX3 yX3_has wsX3_has) := goodIn_app (goodIn_of _ (by decide +kernel)) ggX11_needGate_X3_has
theorem dX11_needGate_0 : decode cX11_needGate 0 = .ok (.aload_n 0, 1) := by decide +kernel
theorem dX11_needGate_1 : decode cX11_needGate 1 = .ok (.iload_n 1, 1) := by decide +kernel
theorem dX11_needGate_2 : decode cX11_needGate 2 = .ok (.invokevirtual 277, 3) := by decide +kernel
theorem dX11_needGate_5 : decode cX11_needGate 5 = .ok (.ifCond .ne 14, 3) := by decide +kernel
theorem dX11_needGate_8 : decode cX11_needGate 8 = .ok (.new 206, 3) := by decide +kernel
theorem dX11_needGate_11 : decode cX11_needGate 11 = .ok (.dup, 1) := by decide +kernel
theorem dX11_needGate_12 : decode cX11_needGate 12 = .ok (.ldc_w 281, 3) := by decide +kernel
theorem dX11_needGate_15 : decode cX11_needGate 15 = .ok (.invokespecial 210, 3) := by decide +kernel
theorem dX11_needGate_18 : decode cX11_needGate 18 = .ok (.athrow, 1) := by decide +kernel
theorem dX11_needGate_19 : decode cX11_needGate 19 = .ok (.return_, 1) := by decide +kernel
theorem dX11_needRange_0 : decode cX11_needRange 0 = .ok (.iload_n 0, 1) := by decide +kernel
theorem dX11_needRange_1 : decode cX11_needRange 1 = .ok (.iload_n 1, 1) := by decide +kernel
theorem dX11_needRange_2 : decode cX11_needRange 2 = .ok (.if_icmp .lt 8, 3) := by decide +kernel
theorem dX11_needRange_5 : decode cX11_needRange 5 = .ok (.iload_n 0, 1) := by decide +kernel
theorem dX11_needRange_6 : decode cX11_needRange 6 = .ok (.iload_n 2, 1) := by decide +kernel
theorem dX11_needRange_7 : decode cX11_needRange 7 = .ok (.if_icmp .le 14, 3) := by decide +kernel
theorem dX11_needRange_10 : decode cX11_needRange 10 = .ok (.new 283, 3) := by decide +kernel
theorem dX11_needRange_13 : decode cX11_needRange 13 = .ok (.dup, 1) := by decide +kernel
theorem dX11_needRange_14 : decode cX11_needRange 14 = .ok (.ldc_w 285, 3) := by decide +kernel
theorem dX11_needRange_17 : decode cX11_needRange 17 = .ok (.invokespecial 287, 3) := by decide +kernel
theorem dX11_needRange_20 : decode cX11_needRange 20 = .ok (.athrow, 1) := by decide +kernel
theorem dX11_needRange_21 : decode cX11_needRange 21 = .ok (.return_, 1) := by decide +kernel
set_option maxRecDepth 20000 in
theorem ggX11_needTransition_X11_needRange : GoodIn wsX11_needTransition wsX11_needRange := goodIn_ca (goodIn_r _ [5, 6, 7] (by decide +kernel) (by decide +kernel)) (goodIn_sub (fun _ h => List.mem_cons_of_mem _ (List.mem_append_right _ h)) (by decide +kernel))
set_option maxRecDepth 20000 in
theorem gX11_needTransition_X11_needRange : GoodIn wsX11_needTransition (va_wsS RX11 135 yX11_needRange wsX11_needRange) := goodIn_app (goodIn_of _ (by decide +kernel)) ggX11_needTransition_X11_needRange
theorem dX11_needTransition_0 : decode cX11_needTransition 0 = .ok (.iload_n 0, 1) := by decide +kernel
theorem dX11_needTransition_1 : decode cX11_needTransition 1 = .ok (.iconst 0, 1) := by decide +kernel
theorem dX11_needTransition_2 : decode cX11_needTransition 2 = .ok (.ldc 168, 2) := by decide +kernel
theorem dX11_needTransition_4 : decode cX11_needTransition 4 = .ok (.invokestatic 135, 3) := by decide +kernel
theorem dX11_needTransition_7 : decode cX11_needTransition 7 = .ok (.iload_n 1, 1) := by decide +kernel
theorem dX11_needTransition_8 : decode cX11_needTransition 8 = .ok (.iconst 0, 1) := by decide +kernel
theorem dX11_needTransition_9 : decode cX11_needTransition 9 = .ok (.ldc 168, 2) := by decide +kernel
theorem dX11_needTransition_11 : decode cX11_needTransition 11 = .ok (.invokestatic 135, 3) := by decide +kernel
theorem dX11_needTransition_14 : decode cX11_needTransition 14 = .ok (.iload_n 2, 1) := by decide +kernel
theorem dX11_needTransition_15 : decode cX11_needTransition 15 = .ok (.iconst 0, 1) := by decide +kernel
theorem dX11_needTransition_16 : decode cX11_needTransition 16 = .ok (.iconst 2, 1) := by decide +kernel
theorem dX11_needTransition_17 : decode cX11_needTransition 17 = .ok (.invokestatic 135, 3) := by decide +kernel
theorem dX11_needTransition_20 : decode cX11_needTransition 20 = .ok (.return_, 1) := by decide +kernel
set_option maxRecDepth 20000 in
theorem ggX11_needNoGates_X3_size : GoodIn wsX11_needNoGates wsX3_size := goodIn_r _ [7, 8, 9, 10, 11, 12, 13, 14, 15, 16] (by decide +kernel) (by decide +kernel)
set_option maxRecDepth 20000 in
theorem gX11_needNoGates_X3_size : GoodIn wsX11_needNoGates (wsV RX11 150 RX3 yX3_size wsX3_size) := goodIn_app (goodIn_of _ (by decide +kernel)) ggX11_needNoGates_X3_size
theorem dX11_needNoGates_0 : decode cX11_needNoGates 0 = .ok (.aload_n 0, 1) := by decide +kernel
theorem dX11_needNoGates_1 : decode cX11_needNoGates 1 = .ok (.invokevirtual 150, 3) := by decide +kernel
theorem dX11_needNoGates_4 : decode cX11_needNoGates 4 = .ok (.ifCond .le 14, 3) := by decide +kernel
theorem dX11_needNoGates_7 : decode cX11_needNoGates 7 = .ok (.new 103, 3) := by decide +kernel
theorem dX11_needNoGates_10 : decode cX11_needNoGates 10 = .ok (.dup, 1) := by decide +kernel
theorem dX11_needNoGates_11 : decode cX11_needNoGates 11 = .ok (.ldc_w 288, 3) := by decide +kernel
theorem dX11_needNoGates_14 : decode cX11_needNoGates 14 = .ok (.invokespecial 107, 3) := by decide +kernel
theorem dX11_needNoGates_17 : decode cX11_needNoGates 17 = .ok (.athrow, 1) := by decide +kernel
theorem dX11_needNoGates_18 : decode cX11_needNoGates 18 = .ok (.return_, 1) := by decide +kernel
set_option maxRecDepth 20000 in
theorem ggX11_needTwoOperands_X3_inputCount : GoodIn wsX11_needTwoOperands wsX3_inputCount := goodIn_r _ [7, 8, 9, 10, 11, 12, 13, 14, 15, 16] (by decide +kernel) (by decide +kernel)
set_option maxRecDepth 20000 in
theorem gX11_needTwoOperands_X3_inputCount : GoodIn wsX11_needTwoOperands (wsV RX11 99 RX3 yX3_inputCount wsX3_inputCount) := goodIn_app (goodIn_of _ (by decide +kernel)) ggX11_needTwoOperands_X3_inputCount
theorem dX11_needTwoOperands_0 : decode cX11_needTwoOperands 0 = .ok (.aload_n 0, 1) := by decide +kernel
theorem dX11_needTwoOperands_1 : decode cX11_needTwoOperands 1 = .ok (.invokevirtual 99, 3) := by decide +kernel
theorem dX11_needTwoOperands_4 : decode cX11_needTwoOperands 4 = .ok (.istore_n 1, 1) := by decide +kernel
theorem dX11_needTwoOperands_5 : decode cX11_needTwoOperands 5 = .ok (.iload_n 1, 1) := by decide +kernel
theorem dX11_needTwoOperands_6 : decode cX11_needTwoOperands 6 = .ok (.iconst 2, 1) := by decide +kernel
theorem dX11_needTwoOperands_7 : decode cX11_needTwoOperands 7 = .ok (.if_icmp .lt 15, 3) := by decide +kernel
theorem dX11_needTwoOperands_10 : decode cX11_needTwoOperands 10 = .ok (.iload_n 1, 1) := by decide +kernel
theorem dX11_needTwoOperands_11 : decode cX11_needTwoOperands 11 = .ok (.bipush 12, 2) := by decide +kernel
theorem dX11_needTwoOperands_13 : decode cX11_needTwoOperands 13 = .ok (.if_icmp .gt 9, 3) := by decide +kernel
theorem dX11_needTwoOperands_16 : decode cX11_needTwoOperands 16 = .ok (.iload_n 1, 1) := by decide +kernel
theorem dX11_needTwoOperands_17 : decode cX11_needTwoOperands 17 = .ok (.iconst 1, 1) := by decide +kernel
theorem dX11_needTwoOperands_18 : decode cX11_needTwoOperands 18 = .ok (.iand, 1) := by decide +kernel
theorem dX11_needTwoOperands_19 : decode cX11_needTwoOperands 19 = .ok (.ifCond .eq 14, 3) := by decide +kernel
theorem dX11_needTwoOperands_22 : decode cX11_needTwoOperands 22 = .ok (.new 103, 3) := by decide +kernel
theorem dX11_needTwoOperands_25 : decode cX11_needTwoOperands 25 = .ok (.dup, 1) := by decide +kernel
theorem dX11_needTwoOperands_26 : decode cX11_needTwoOperands 26 = .ok (.ldc_w 290, 3) := by decide +kernel
theorem dX11_needTwoOperands_29 : decode cX11_needTwoOperands 29 = .ok (.invokespecial 107, 3) := by decide +kernel
theorem dX11_needTwoOperands_32 : decode cX11_needTwoOperands 32 = .ok (.athrow, 1) := by decide +kernel
theorem dX11_needTwoOperands_33 : decode cX11_needTwoOperands 33 = .ok (.return_, 1) := by decide +kernel
set_option maxRecDepth 20000 in
theorem ggX11_areaOf_X3_size : GoodIn wsX11_areaOf wsX3_size := goodIn_r _ [6, 7, 36, 37, 38, 39, 40, 41, 42, 43] (by decide +kernel) (by decide +kernel)
set_option maxRecDepth 20000 in
theorem gX11_areaOf_X3_size : GoodIn wsX11_areaOf (wsV RX11 150 RX3 yX3_size wsX3_size) := goodIn_app (goodIn_of _ (by decide +kernel)) ggX11_areaOf_X3_size
set_option maxRecDepth 20000 in
theorem ggX11_areaOf_X3_isInput : GoodIn wsX11_areaOf wsX3_isInput := goodIn_r _ [11, 12, 13, 14, 15, 16, 17, 18, 36, 37, 38, 39, 40, 41, 42, 43, 44] (by decide +kernel) (by decide +kernel)
set_option maxRecDepth 20000 in
theorem gX11_areaOf_X3_isInput : GoodIn wsX11_areaOf (wsV RX11 292 RX3 yX3_isInput wsX3_isInput) := goodIn_app (goodIn_of _ (by decide +kernel)) ggX11_areaOf_X3_isInput
set_option maxRecDepth 20000 in
theorem ggX11_areaOf_X3_kindOf : GoodIn wsX11_areaOf wsX3_kindOf := goodIn_r _ [22, 12, 13, 14, 15, 16, 17, 18, 36, 37, 38, 39, 40, 41, 42, 43, 44] (by decide +kernel) (by decide +kernel)
set_option maxRecDepth 20000 in
theorem gX11_areaOf_X3_kindOf : GoodIn wsX11_areaOf (wsV RX11 295 RX3 yX3_kindOf wsX3_kindOf) := goodIn_app (goodIn_of _ (by decide +kernel)) ggX11_areaOf_X3_kindOf
set_option maxRecDepth 20000 in
theorem ggX11_areaOf_X4_at : GoodIn wsX11_areaOf wsX4_at := goodIn_r _ [17, 18, 44] (by decide +kernel) (by decide +kernel)
set_option maxRecDepth 20000 in
theorem gX11_areaOf_X4_at : GoodIn wsX11_areaOf (wsV RX11 159 RX4 yX4_at wsX4_at) := goodIn_app (goodIn_of _ (by decide +kernel)) ggX11_areaOf_X4_at
theorem dX11_areaOf_0 : decode cX11_areaOf 0 = .ok (.iconst 0, 1) := by decide +kernel
theorem dX11_areaOf_1 : decode cX11_areaOf 1 = .ok (.istore_n 2, 1) := by decide +kernel
theorem dX11_areaOf_2 : decode cX11_areaOf 2 = .ok (.iconst 0, 1) := by decide +kernel
theorem dX11_areaOf_3 : decode cX11_areaOf 3 = .ok (.istore_n 3, 1) := by decide +kernel
theorem dX11_areaOf_4 : decode cX11_areaOf 4 = .ok (.iload_n 3, 1) := by decide +kernel
theorem dX11_areaOf_5 : decode cX11_areaOf 5 = .ok (.aload_n 1, 1) := by decide +kernel
theorem dX11_areaOf_6 : decode cX11_areaOf 6 = .ok (.invokevirtual 150, 3) := by decide +kernel
theorem dX11_areaOf_9 : decode cX11_areaOf 9 = .ok (.if_icmp .ge 32, 3) := by decide +kernel
theorem dX11_areaOf_12 : decode cX11_areaOf 12 = .ok (.aload_n 1, 1) := by decide +kernel
theorem dX11_areaOf_13 : decode cX11_areaOf 13 = .ok (.iload_n 3, 1) := by decide +kernel
theorem dX11_areaOf_14 : decode cX11_areaOf 14 = .ok (.invokevirtual 292, 3) := by decide +kernel
theorem dX11_areaOf_17 : decode cX11_areaOf 17 = .ok (.ifCond .ne 18, 3) := by decide +kernel
theorem dX11_areaOf_20 : decode cX11_areaOf 20 = .ok (.iload_n 2, 1) := by decide +kernel
theorem dX11_areaOf_21 : decode cX11_areaOf 21 = .ok (.aload_n 0, 1) := by decide +kernel
theorem dX11_areaOf_22 : decode cX11_areaOf 22 = .ok (.getfield 24, 3) := by decide +kernel
theorem dX11_areaOf_25 : decode cX11_areaOf 25 = .ok (.aload_n 1, 1) := by decide +kernel
theorem dX11_areaOf_26 : decode cX11_areaOf 26 = .ok (.iload_n 3, 1) := by decide +kernel
theorem dX11_areaOf_27 : decode cX11_areaOf 27 = .ok (.invokevirtual 295, 3) := by decide +kernel
theorem dX11_areaOf_30 : decode cX11_areaOf 30 = .ok (.invokevirtual 159, 3) := by decide +kernel
theorem dX11_areaOf_33 : decode cX11_areaOf 33 = .ok (.iadd, 1) := by decide +kernel
theorem dX11_areaOf_34 : decode cX11_areaOf 34 = .ok (.istore_n 2, 1) := by decide +kernel
theorem dX11_areaOf_35 : decode cX11_areaOf 35 = .ok (.iinc 3 1, 3) := by decide +kernel
theorem dX11_areaOf_38 : decode cX11_areaOf 38 = .ok (.goto (-34), 3) := by decide +kernel
theorem dX11_areaOf_41 : decode cX11_areaOf 41 = .ok (.iload_n 2, 1) := by decide +kernel
theorem dX11_areaOf_42 : decode cX11_areaOf 42 = .ok (.ireturn, 1) := by decide +kernel
set_option maxRecDepth 20000 in
theorem ggX11_prepareTransition_X7_measure : GoodIn wsX11_prepareTransition wsX7_measure := goodIn_r _ [10, 11, 12, 13, 14, 15, 16, 17, 18, 19, 20, 21, 22, 23, 24, 25, 26, 27, 28, 29, 30, 31, 32, 33, 34, 35, 36, 37, 38, 39, 40, 41, 42, 43, 44, 45, 46, 47, 48, 49, 50, 51, 52, 126, 127, 128, 129, 130, 131, 132, 133, 134, 135, 136] (by decide +kernel) (by decide +kernel)
set_option maxRecDepth 20000 in
theorem gX11_prepareTransition_X7_measure : GoodIn wsX11_prepareTransition (wsV RX11 190 RX7 yX7_measure wsX7_measure) := goodIn_app (goodIn_of _ (by decide +kernel)) ggX11_prepareTransition_X7_measure
set_option maxRecDepth 20000 in
theorem ggX11_prepareTransition_X1_fillForOne : GoodIn wsX11_prepareTransition wsX1_fillForOne := goodIn_r _ [57, 58, 59, 60, 56, 61, 62, 63, 64, 18, 19, 20, 21, 22, 65, 24, 25, 26, 27, 28, 29, 30, 31, 32, 33, 66, 67, 68, 69, 70, 71, 72, 73, 74, 46, 47, 48, 75, 35, 36, 37, 38, 76, 77, 78, 79, 80, 81, 82, 41, 42, 43, 44, 83, 84, 85, 86, 87, 88, 89, 90, 91, 92, 93, 94, 95, 96, 97, 98, 99, 100, 101, 102, 103, 104, 105, 137, 138, 128, 129, 130, 131, 132, 133, 134, 135, 136, 139] (by decide +kernel) (by decide +kernel)
set_option maxRecDepth 20000 in
theorem gX11_prepareTransition_X1_fillForOne : GoodIn wsX11_prepareTransition (wsV RX11 169 RX1 yX1_fillForOne wsX1_fillForOne) := goodIn_app (goodIn_of _ (by decide +kernel)) ggX11_prepareTransition_X1_fillForOne
set_option maxRecDepth 20000 in
theorem ggX11_prepareTransition_X5_begin : GoodIn wsX11_prepareTransition wsX5_begin := goodIn_r _ [110, 111, 112, 113, 140, 141, 142] (by decide +kernel) (by decide +kernel)
set_option maxRecDepth 20000 in
theorem gX11_prepareTransition_X5_begin : GoodIn wsX11_prepareTransition (wsV RX11 298 RX5 yX5_begin wsX5_begin) := goodIn_app (goodIn_of _ (by decide +kernel)) ggX11_prepareTransition_X5_begin
theorem dX11_prepareTransition_0 : decode cX11_prepareTransition 0 = .ok (.aload_n 0, 1) := by decide +kernel
theorem dX11_prepareTransition_1 : decode cX11_prepareTransition 1 = .ok (.getfield 44, 3) := by decide +kernel
theorem dX11_prepareTransition_4 : decode cX11_prepareTransition 4 = .ok (.aload_n 1, 1) := by decide +kernel
theorem dX11_prepareTransition_5 : decode cX11_prepareTransition 5 = .ok (.aload_n 0, 1) := by decide +kernel
theorem dX11_prepareTransition_6 : decode cX11_prepareTransition 6 = .ok (.getfield 20, 3) := by decide +kernel
theorem dX11_prepareTransition_9 : decode cX11_prepareTransition 9 = .ok (.invokevirtual 190, 3) := by decide +kernel
theorem dX11_prepareTransition_12 : decode cX11_prepareTransition 12 = .ok (.aload_n 0, 1) := by decide +kernel
theorem dX11_prepareTransition_13 : decode cX11_prepareTransition 13 = .ok (.getfield 51, 3) := by decide +kernel
theorem dX11_prepareTransition_16 : decode cX11_prepareTransition 16 = .ok (.aload_n 1, 1) := by decide +kernel
theorem dX11_prepareTransition_17 : decode cX11_prepareTransition 17 = .ok (.iload_n 2, 1) := by decide +kernel
theorem dX11_prepareTransition_18 : decode cX11_prepareTransition 18 = .ok (.invokevirtual 169, 3) := by decide +kernel
theorem dX11_prepareTransition_21 : decode cX11_prepareTransition 21 = .ok (.aload_n 0, 1) := by decide +kernel
theorem dX11_prepareTransition_22 : decode cX11_prepareTransition 22 = .ok (.getfield 55, 3) := by decide +kernel
theorem dX11_prepareTransition_25 : decode cX11_prepareTransition 25 = .ok (.aload_n 1, 1) := by decide +kernel
theorem dX11_prepareTransition_26 : decode cX11_prepareTransition 26 = .ok (.iload_n 3, 1) := by decide +kernel
theorem dX11_prepareTransition_27 : decode cX11_prepareTransition 27 = .ok (.invokevirtual 169, 3) := by decide +kernel
theorem dX11_prepareTransition_30 : decode cX11_prepareTransition 30 = .ok (.aload_n 0, 1) := by decide +kernel
theorem dX11_prepareTransition_31 : decode cX11_prepareTransition 31 = .ok (.getfield 61, 3) := by decide +kernel
theorem dX11_prepareTransition_34 : decode cX11_prepareTransition 34 = .ok (.invokevirtual 298, 3) := by decide +kernel
theorem dX11_prepareTransition_37 : decode cX11_prepareTransition 37 = .ok (.return_, 1) := by decide +kernel

theorem dX12_init_0 : decode cX12_init 0 = .ok (.aload_n 0, 1) := by decide +kernel
theorem dX12_init_1 : decode cX12_init 1 = .ok (.invokespecial 1, 3) := by decide +kernel
theorem dX12_init_4 : decode cX12_init 4 = .ok (.aload_n 0, 1) := by decide +kernel
theorem dX12_init_5 : decode cX12_init 5 = .ok (.sipush 480, 3) := by decide +kernel
theorem dX12_init_8 : decode cX12_init 8 = .ok (.newarray .int, 2) := by decide +kernel
theorem dX12_init_10 : decode cX12_init 10 = .ok (.putfield 7, 3) := by decide +kernel
theorem dX12_init_13 : decode cX12_init 13 = .ok (.aload_n 0, 1) := by decide +kernel
theorem dX12_init_14 : decode cX12_init 14 = .ok (.sipush 480, 3) := by decide +kernel
theorem dX12_init_17 : decode cX12_init 17 = .ok (.newarray .int, 2) := by decide +kernel
theorem dX12_init_19 : decode cX12_init 19 = .ok (.putfield 13, 3) := by decide +kernel
theorem dX12_init_22 : decode cX12_init 22 = .ok (.aload_n 0, 1) := by decide +kernel
theorem dX12_init_23 : decode cX12_init 23 = .ok (.sipush 480, 3) := by decide +kernel
theorem dX12_init_26 : decode cX12_init 26 = .ok (.newarray .int, 2) := by decide +kernel
theorem dX12_init_28 : decode cX12_init 28 = .ok (.putfield 16, 3) := by decide +kernel
theorem dX12_init_31 : decode cX12_init 31 = .ok (.aload_n 0, 1) := by decide +kernel
theorem dX12_init_32 : decode cX12_init 32 = .ok (.sipush 480, 3) := by decide +kernel
theorem dX12_init_35 : decode cX12_init 35 = .ok (.newarray .int, 2) := by decide +kernel
theorem dX12_init_37 : decode cX12_init 37 = .ok (.putfield 19, 3) := by decide +kernel
theorem dX12_init_40 : decode cX12_init 40 = .ok (.aload_n 0, 1) := by decide +kernel
theorem dX12_init_41 : decode cX12_init 41 = .ok (.iconst 4, 1) := by decide +kernel
theorem dX12_init_42 : decode cX12_init 42 = .ok (.newarray .int, 2) := by decide +kernel
theorem dX12_init_44 : decode cX12_init 44 = .ok (.putfield 22, 3) := by decide +kernel
theorem dX12_init_47 : decode cX12_init 47 = .ok (.aload_n 0, 1) := by decide +kernel
theorem dX12_init_48 : decode cX12_init 48 = .ok (.iconst 4, 1) := by decide +kernel
theorem dX12_init_49 : decode cX12_init 49 = .ok (.newarray .int, 2) := by decide +kernel
theorem dX12_init_51 : decode cX12_init 51 = .ok (.putfield 25, 3) := by decide +kernel
theorem dX12_init_54 : decode cX12_init 54 = .ok (.aload_n 0, 1) := by decide +kernel
theorem dX12_init_55 : decode cX12_init 55 = .ok (.bipush 64, 2) := by decide +kernel
theorem dX12_init_57 : decode cX12_init 57 = .ok (.newarray .int, 2) := by decide +kernel
theorem dX12_init_59 : decode cX12_init 59 = .ok (.putfield 28, 3) := by decide +kernel
theorem dX12_init_62 : decode cX12_init 62 = .ok (.aload_n 0, 1) := by decide +kernel
theorem dX12_init_63 : decode cX12_init 63 = .ok (.iconst 4, 1) := by decide +kernel
theorem dX12_init_64 : decode cX12_init 64 = .ok (.newarray .int, 2) := by decide +kernel
theorem dX12_init_66 : decode cX12_init 66 = .ok (.putfield 31, 3) := by decide +kernel
theorem dX12_init_69 : decode cX12_init 69 = .ok (.aload_n 0, 1) := by decide +kernel
theorem dX12_init_70 : decode cX12_init 70 = .ok (.iconst 4, 1) := by decide +kernel
theorem dX12_init_71 : decode cX12_init 71 = .ok (.newarray .int, 2) := by decide +kernel
theorem dX12_init_73 : decode cX12_init 73 = .ok (.putfield 34, 3) := by decide +kernel
theorem dX12_init_76 : decode cX12_init 76 = .ok (.aload_n 0, 1) := by decide +kernel
theorem dX12_init_77 : decode cX12_init 77 = .ok (.iconst 4, 1) := by decide +kernel
theorem dX12_init_78 : decode cX12_init 78 = .ok (.newarray .int, 2) := by decide +kernel
theorem dX12_init_80 : decode cX12_init 80 = .ok (.putfield 37, 3) := by decide +kernel
theorem dX12_init_83 : decode cX12_init 83 = .ok (.aload_n 0, 1) := by decide +kernel
theorem dX12_init_84 : decode cX12_init 84 = .ok (.bipush 120, 2) := by decide +kernel
theorem dX12_init_86 : decode cX12_init 86 = .ok (.newarray .int, 2) := by decide +kernel
theorem dX12_init_88 : decode cX12_init 88 = .ok (.putfield 40, 3) := by decide +kernel
theorem dX12_init_91 : decode cX12_init 91 = .ok (.aload_n 0, 1) := by decide +kernel
theorem dX12_init_92 : decode cX12_init 92 = .ok (.bipush 120, 2) := by decide +kernel
theorem dX12_init_94 : decode cX12_init 94 = .ok (.newarray .int, 2) := by decide +kernel
theorem dX12_init_96 : decode cX12_init 96 = .ok (.putfield 43, 3) := by decide +kernel
theorem dX12_init_99 : decode cX12_init 99 = .ok (.aload_n 0, 1) := by decide +kernel
theorem dX12_init_100 : decode cX12_init 100 = .ok (.bipush 120, 2) := by decide +kernel
theorem dX12_init_102 : decode cX12_init 102 = .ok (.newarray .int, 2) := by decide +kernel
theorem dX12_init_104 : decode cX12_init 104 = .ok (.putfield 46, 3) := by decide +kernel
theorem dX12_init_107 : decode cX12_init 107 = .ok (.aload_n 0, 1) := by decide +kernel
theorem dX12_init_108 : decode cX12_init 108 = .ok (.bipush 120, 2) := by decide +kernel
theorem dX12_init_110 : decode cX12_init 110 = .ok (.newarray .int, 2) := by decide +kernel
theorem dX12_init_112 : decode cX12_init 112 = .ok (.putfield 49, 3) := by decide +kernel
theorem dX12_init_115 : decode cX12_init 115 = .ok (.aload_n 0, 1) := by decide +kernel
theorem dX12_init_116 : decode cX12_init 116 = .ok (.sipush 1200, 3) := by decide +kernel
theorem dX12_init_119 : decode cX12_init 119 = .ok (.newarray .int, 2) := by decide +kernel
theorem dX12_init_121 : decode cX12_init 121 = .ok (.putfield 52, 3) := by decide +kernel
theorem dX12_init_124 : decode cX12_init 124 = .ok (.aload_n 0, 1) := by decide +kernel
theorem dX12_init_125 : decode cX12_init 125 = .ok (.bipush 6, 2) := by decide +kernel
theorem dX12_init_127 : decode cX12_init 127 = .ok (.newarray .int, 2) := by decide +kernel
theorem dX12_init_129 : decode cX12_init 129 = .ok (.putfield 55, 3) := by decide +kernel
theorem dX12_init_132 : decode cX12_init 132 = .ok (.aload_n 0, 1) := by decide +kernel
theorem dX12_init_133 : decode cX12_init 133 = .ok (.bipush 6, 2) := by decide +kernel
theorem dX12_init_135 : decode cX12_init 135 = .ok (.newarray .int, 2) := by decide +kernel
theorem dX12_init_137 : decode cX12_init 137 = .ok (.putfield 58, 3) := by decide +kernel
theorem dX12_init_140 : decode cX12_init 140 = .ok (.aload_n 0, 1) := by decide +kernel
theorem dX12_init_141 : decode cX12_init 141 = .ok (.bipush 6, 2) := by decide +kernel
theorem dX12_init_143 : decode cX12_init 143 = .ok (.newarray .int, 2) := by decide +kernel
theorem dX12_init_145 : decode cX12_init 145 = .ok (.putfield 61, 3) := by decide +kernel
theorem dX12_init_148 : decode cX12_init 148 = .ok (.aload_n 0, 1) := by decide +kernel
theorem dX12_init_149 : decode cX12_init 149 = .ok (.bipush 6, 2) := by decide +kernel
theorem dX12_init_151 : decode cX12_init 151 = .ok (.newarray .int, 2) := by decide +kernel
theorem dX12_init_153 : decode cX12_init 153 = .ok (.putfield 64, 3) := by decide +kernel
theorem dX12_init_156 : decode cX12_init 156 = .ok (.aload_n 0, 1) := by decide +kernel
theorem dX12_init_157 : decode cX12_init 157 = .ok (.bipush 16, 2) := by decide +kernel
theorem dX12_init_159 : decode cX12_init 159 = .ok (.newarray .int, 2) := by decide +kernel
theorem dX12_init_161 : decode cX12_init 161 = .ok (.putfield 67, 3) := by decide +kernel
theorem dX12_init_164 : decode cX12_init 164 = .ok (.aload_n 0, 1) := by decide +kernel
theorem dX12_init_165 : decode cX12_init 165 = .ok (.bipush 16, 2) := by decide +kernel
theorem dX12_init_167 : decode cX12_init 167 = .ok (.newarray .int, 2) := by decide +kernel
theorem dX12_init_169 : decode cX12_init 169 = .ok (.putfield 70, 3) := by decide +kernel
theorem dX12_init_172 : decode cX12_init 172 = .ok (.iconst 0, 1) := by decide +kernel
theorem dX12_init_173 : decode cX12_init 173 = .ok (.istore_n 1, 1) := by decide +kernel
theorem dX12_init_174 : decode cX12_init 174 = .ok (.iload_n 1, 1) := by decide +kernel
theorem dX12_init_175 : decode cX12_init 175 = .ok (.iconst 4, 1) := by decide +kernel
theorem dX12_init_176 : decode cX12_init 176 = .ok (.if_icmp .ge 23, 3) := by decide +kernel
theorem dX12_init_179 : decode cX12_init 179 = .ok (.aload_n 0, 1) := by decide +kernel
theorem dX12_init_180 : decode cX12_init 180 = .ok (.getfield 34, 3) := by decide +kernel
theorem dX12_init_183 : decode cX12_init 183 = .ok (.iload_n 1, 1) := by decide +kernel
theorem dX12_init_184 : decode cX12_init 184 = .ok (.iconst 1, 1) := by decide +kernel
theorem dX12_init_185 : decode cX12_init 185 = .ok (.iastore, 1) := by decide +kernel
theorem dX12_init_186 : decode cX12_init 186 = .ok (.aload_n 0, 1) := by decide +kernel
theorem dX12_init_187 : decode cX12_init 187 = .ok (.getfield 37, 3) := by decide +kernel
theorem dX12_init_190 : decode cX12_init 190 = .ok (.iload_n 1, 1) := by decide +kernel
theorem dX12_init_191 : decode cX12_init 191 = .ok (.iconst 1, 1) := by decide +kernel
theorem dX12_init_192 : decode cX12_init 192 = .ok (.iastore, 1) := by decide +kernel
theorem dX12_init_193 : decode cX12_init 193 = .ok (.iinc 1 1, 3) := by decide +kernel
theorem dX12_init_196 : decode cX12_init 196 = .ok (.goto (-22), 3) := by decide +kernel
theorem dX12_init_199 : decode cX12_init 199 = .ok (.return_, 1) := by decide +kernel
theorem dX12_thrown_0 : decode cX12_thrown 0 = .ok (.aload_n 0, 1) := by decide +kernel
theorem dX12_thrown_1 : decode cX12_thrown 1 = .ok (.getfield 73, 3) := by decide +kernel
theorem dX12_thrown_4 : decode cX12_thrown 4 = .ok (.ireturn, 1) := by decide +kernel
theorem dX12_isIn_0 : decode cX12_isIn 0 = .ok (.iload_n 0, 1) := by decide +kernel
theorem dX12_isIn_1 : decode cX12_isIn 1 = .ok (.iload_n 1, 1) := by decide +kernel
theorem dX12_isIn_2 : decode cX12_isIn 2 = .ok (.if_icmp .lt 12, 3) := by decide +kernel
theorem dX12_isIn_5 : decode cX12_isIn 5 = .ok (.iload_n 0, 1) := by decide +kernel
theorem dX12_isIn_6 : decode cX12_isIn 6 = .ok (.iload_n 2, 1) := by decide +kernel
theorem dX12_isIn_7 : decode cX12_isIn 7 = .ok (.if_icmp .gt 7, 3) := by decide +kernel
theorem dX12_isIn_10 : decode cX12_isIn 10 = .ok (.iconst 1, 1) := by decide +kernel
theorem dX12_isIn_11 : decode cX12_isIn 11 = .ok (.goto 4, 3) := by decide +kernel
theorem dX12_isIn_14 : decode cX12_isIn 14 = .ok (.iconst 0, 1) := by decide +kernel
theorem dX12_isIn_15 : decode cX12_isIn 15 = .ok (.ireturn, 1) := by decide +kernel
set_option maxRecDepth 20000 in
theorem ggX12_isNet_X12_isIn : GoodIn wsX12_isNet wsX12_isIn := goodIn_r _ [4] (by decide +kernel) (by decide +kernel)
set_option maxRecDepth 20000 in
theorem gX12_isNet_X12_isIn : GoodIn wsX12_isNet (va_wsS RX12 77 yX12_isIn wsX12_isIn) := goodIn_app (goodIn_of _ (by decide +kernel)) ggX12_isNet_X12_isIn
theorem dX12_isNet_0 : decode cX12_isNet 0 = .ok (.iload_n 0, 1) := by decide +kernel
theorem dX12_isNet_1 : decode cX12_isNet 1 = .ok (.iconst 0, 1) := by decide +kernel
theorem dX12_isNet_2 : decode cX12_isNet 2 = .ok (.iconst 3, 1) := by decide +kernel
theorem dX12_isNet_3 : decode cX12_isNet 3 = .ok (.invokestatic 77, 3) := by decide +kernel
theorem dX12_isNet_6 : decode cX12_isNet 6 = .ok (.ireturn, 1) := by decide +kernel
set_option maxRecDepth 20000 in
theorem ggX12_isGate_X12_isNet : GoodIn wsX12_isGate wsX12_isNet := goodIn_r _ [5, 6, 7, 4, 8] (by decide +kernel) (by decide +kernel)
set_option maxRecDepth 20000 in
theorem gX12_isGate_X12_isNet : GoodIn wsX12_isGate (va_wsS RX12 81 yX12_isNet wsX12_isNet) := goodIn_app (goodIn_of _ (by decide +kernel)) ggX12_isGate_X12_isNet
set_option maxRecDepth 20000 in
theorem ggX12_isGate_X12_isIn : GoodIn wsX12_isGate wsX12_isIn := goodIn_r _ [8] (by decide +kernel) (by decide +kernel)
set_option maxRecDepth 20000 in
theorem gX12_isGate_X12_isIn : GoodIn wsX12_isGate (va_wsS RX12 77 yX12_isIn wsX12_isIn) := goodIn_app (goodIn_of _ (by decide +kernel)) ggX12_isGate_X12_isIn
theorem dX12_isGate_0 : decode cX12_isGate 0 = .ok (.iload_n 1, 1) := by decide +kernel
theorem dX12_isGate_1 : decode cX12_isGate 1 = .ok (.invokestatic 81, 3) := by decide +kernel
theorem dX12_isGate_4 : decode cX12_isGate 4 = .ok (.ifCond .eq 23, 3) := by decide +kernel
theorem dX12_isGate_7 : decode cX12_isGate 7 = .ok (.iload_n 2, 1) := by decide +kernel
theorem dX12_isGate_8 : decode cX12_isGate 8 = .ok (.iconst 0, 1) := by decide +kernel
theorem dX12_isGate_9 : decode cX12_isGate 9 = .ok (.aload_n 0, 1) := by decide +kernel
theorem dX12_isGate_10 : decode cX12_isGate 10 = .ok (.getfield 22, 3) := by decide +kernel
theorem dX12_isGate_13 : decode cX12_isGate 13 = .ok (.iload_n 1, 1) := by decide +kernel
theorem dX12_isGate_14 : decode cX12_isGate 14 = .ok (.iaload, 1) := by decide +kernel
theorem dX12_isGate_15 : decode cX12_isGate 15 = .ok (.iconst 1, 1) := by decide +kernel
theorem dX12_isGate_16 : decode cX12_isGate 16 = .ok (.isub, 1) := by decide +kernel
theorem dX12_isGate_17 : decode cX12_isGate 17 = .ok (.invokestatic 77, 3) := by decide +kernel
theorem dX12_isGate_20 : decode cX12_isGate 20 = .ok (.ifCond .eq 7, 3) := by decide +kernel
theorem dX12_isGate_23 : decode cX12_isGate 23 = .ok (.iconst 1, 1) := by decide +kernel
theorem dX12_isGate_24 : decode cX12_isGate 24 = .ok (.goto 4, 3) := by decide +kernel
theorem dX12_isGate_27 : decode cX12_isGate 27 = .ok (.iconst 0, 1) := by decide +kernel
theorem dX12_isGate_28 : decode cX12_isGate 28 = .ok (.ireturn, 1) := by decide +kernel
theorem dX12_adds_0 : decode cX12_adds 0 = .ok (.bipush 120, 2) := by decide +kernel
theorem dX12_adds_2 : decode cX12_adds 2 = .ok (.iload_n 1, 1) := by decide +kernel
theorem dX12_adds_3 : decode cX12_adds 3 = .ok (.imul, 1) := by decide +kernel
theorem dX12_adds_4 : decode cX12_adds 4 = .ok (.aload_n 0, 1) := by decide +kernel
theorem dX12_adds_5 : decode cX12_adds 5 = .ok (.getfield 22, 3) := by decide +kernel
theorem dX12_adds_8 : decode cX12_adds 8 = .ok (.iload_n 1, 1) := by decide +kernel
theorem dX12_adds_9 : decode cX12_adds 9 = .ok (.iaload, 1) := by decide +kernel
theorem dX12_adds_10 : decode cX12_adds 10 = .ok (.iadd, 1) := by decide +kernel
theorem dX12_adds_11 : decode cX12_adds 11 = .ok (.istore 5, 2) := by decide +kernel
theorem dX12_adds_13 : decode cX12_adds 13 = .ok (.aload_n 0, 1) := by decide +kernel
theorem dX12_adds_14 : decode cX12_adds 14 = .ok (.getfield 7, 3) := by decide +kernel
theorem dX12_adds_17 : decode cX12_adds 17 = .ok (.iload 5, 2) := by decide +kernel
theorem dX12_adds_19 : decode cX12_adds 19 = .ok (.iload_n 2, 1) := by decide +kernel
theorem dX12_adds_20 : decode cX12_adds 20 = .ok (.iastore, 1) := by decide +kernel
theorem dX12_adds_21 : decode cX12_adds 21 = .ok (.aload_n 0, 1) := by decide +kernel
theorem dX12_adds_22 : decode cX12_adds 22 = .ok (.getfield 13, 3) := by decide +kernel
theorem dX12_adds_25 : decode cX12_adds 25 = .ok (.iload 5, 2) := by decide +kernel
theorem dX12_adds_27 : decode cX12_adds 27 = .ok (.iload_n 3, 1) := by decide +kernel
theorem dX12_adds_28 : decode cX12_adds 28 = .ok (.iastore, 1) := by decide +kernel
theorem dX12_adds_29 : decode cX12_adds 29 = .ok (.aload_n 0, 1) := by decide +kernel
theorem dX12_adds_30 : decode cX12_adds 30 = .ok (.getfield 16, 3) := by decide +kernel
theorem dX12_adds_33 : decode cX12_adds 33 = .ok (.iload 5, 2) := by decide +kernel
theorem dX12_adds_35 : decode cX12_adds 35 = .ok (.iload_n 2, 1) := by decide +kernel
theorem dX12_adds_36 : decode cX12_adds 36 = .ok (.iconst 3, 1) := by decide +kernel
theorem dX12_adds_37 : decode cX12_adds 37 = .ok (.if_icmp .ne 7, 3) := by decide +kernel
theorem dX12_adds_40 : decode cX12_adds 40 = .ok (.iload_n 3, 1) := by decide +kernel
theorem dX12_adds_41 : decode cX12_adds 41 = .ok (.goto 5, 3) := by decide +kernel
theorem dX12_adds_44 : decode cX12_adds 44 = .ok (.iload 4, 2) := by decide +kernel
theorem dX12_adds_46 : decode cX12_adds 46 = .ok (.iastore, 1) := by decide +kernel
theorem dX12_adds_47 : decode cX12_adds 47 = .ok (.aload_n 0, 1) := by decide +kernel
theorem dX12_adds_48 : decode cX12_adds 48 = .ok (.getfield 19, 3) := by decide +kernel
theorem dX12_adds_51 : decode cX12_adds 51 = .ok (.iload 5, 2) := by decide +kernel
theorem dX12_adds_53 : decode cX12_adds 53 = .ok (.iconst (-1), 1) := by decide +kernel
theorem dX12_adds_54 : decode cX12_adds 54 = .ok (.iastore, 1) := by decide +kernel
theorem dX12_adds_55 : decode cX12_adds 55 = .ok (.aload_n 0, 1) := by decide +kernel
theorem dX12_adds_56 : decode cX12_adds 56 = .ok (.getfield 25, 3) := by decide +kernel
theorem dX12_adds_59 : decode cX12_adds 59 = .ok (.iload_n 1, 1) := by decide +kernel
theorem dX12_adds_60 : decode cX12_adds 60 = .ok (.dup2, 1) := by decide +kernel
theorem dX12_adds_61 : decode cX12_adds 61 = .ok (.iaload, 1) := by decide +kernel
theorem dX12_adds_62 : decode cX12_adds 62 = .ok (.iload_n 2, 1) := by decide +kernel
theorem dX12_adds_63 : decode cX12_adds 63 = .ok (.iconst 4, 1) := by decide +kernel
theorem dX12_adds_64 : decode cX12_adds 64 = .ok (.if_icmp .ne 7, 3) := by decide +kernel
theorem dX12_adds_67 : decode cX12_adds 67 = .ok (.iconst 1, 1) := by decide +kernel
theorem dX12_adds_68 : decode cX12_adds 68 = .ok (.goto 4, 3) := by decide +kernel
theorem dX12_adds_71 : decode cX12_adds 71 = .ok (.iconst 0, 1) := by decide +kernel
theorem dX12_adds_72 : decode cX12_adds 72 = .ok (.iadd, 1) := by decide +kernel
theorem dX12_adds_73 : decode cX12_adds 73 = .ok (.iastore, 1) := by decide +kernel
theorem dX12_adds_74 : decode cX12_adds 74 = .ok (.aload_n 0, 1) := by decide +kernel
theorem dX12_adds_75 : decode cX12_adds 75 = .ok (.getfield 22, 3) := by decide +kernel
theorem dX12_adds_78 : decode cX12_adds 78 = .ok (.iload_n 1, 1) := by decide +kernel
theorem dX12_adds_79 : decode cX12_adds 79 = .ok (.dup2, 1) := by decide +kernel
theorem dX12_adds_80 : decode cX12_adds 80 = .ok (.iaload, 1) := by decide +kernel
theorem dX12_adds_81 : decode cX12_adds 81 = .ok (.iconst 1, 1) := by decide +kernel
theorem dX12_adds_82 : decode cX12_adds 82 = .ok (.iadd, 1) := by decide +kernel
theorem dX12_adds_83 : decode cX12_adds 83 = .ok (.iastore, 1) := by decide +kernel
theorem dX12_adds_84 : decode cX12_adds 84 = .ok (.aload_n 0, 1) := by decide +kernel
theorem dX12_adds_85 : decode cX12_adds 85 = .ok (.getfield 22, 3) := by decide +kernel
theorem dX12_adds_88 : decode cX12_adds 88 = .ok (.iload_n 1, 1) := by decide +kernel
theorem dX12_adds_89 : decode cX12_adds 89 = .ok (.iaload, 1) := by decide +kernel
theorem dX12_adds_90 : decode cX12_adds 90 = .ok (.iconst 1, 1) := by decide +kernel
theorem dX12_adds_91 : decode cX12_adds 91 = .ok (.isub, 1) := by decide +kernel
theorem dX12_adds_92 : decode cX12_adds 92 = .ok (.ireturn, 1) := by decide +kernel
theorem dX12_addsOut_0 : decode cX12_addsOut 0 = .ok (.aload_n 0, 1) := by decide +kernel
theorem dX12_addsOut_1 : decode cX12_addsOut 1 = .ok (.getfield 28, 3) := by decide +kernel
theorem dX12_addsOut_4 : decode cX12_addsOut 4 = .ok (.bipush 16, 2) := by decide +kernel
theorem dX12_addsOut_6 : decode cX12_addsOut 6 = .ok (.iload_n 1, 1) := by decide +kernel
theorem dX12_addsOut_7 : decode cX12_addsOut 7 = .ok (.imul, 1) := by decide +kernel
theorem dX12_addsOut_8 : decode cX12_addsOut 8 = .ok (.aload_n 0, 1) := by decide +kernel
theorem dX12_addsOut_9 : decode cX12_addsOut 9 = .ok (.getfield 31, 3) := by decide +kernel
theorem dX12_addsOut_12 : decode cX12_addsOut 12 = .ok (.iload_n 1, 1) := by decide +kernel
theorem dX12_addsOut_13 : decode cX12_addsOut 13 = .ok (.iaload, 1) := by decide +kernel
theorem dX12_addsOut_14 : decode cX12_addsOut 14 = .ok (.iadd, 1) := by decide +kernel
theorem dX12_addsOut_15 : decode cX12_addsOut 15 = .ok (.iload_n 2, 1) := by decide +kernel
theorem dX12_addsOut_16 : decode cX12_addsOut 16 = .ok (.iastore, 1) := by decide +kernel
theorem dX12_addsOut_17 : decode cX12_addsOut 17 = .ok (.aload_n 0, 1) := by decide +kernel
theorem dX12_addsOut_18 : decode cX12_addsOut 18 = .ok (.getfield 31, 3) := by decide +kernel
theorem dX12_addsOut_21 : decode cX12_addsOut 21 = .ok (.iload_n 1, 1) := by decide +kernel
theorem dX12_addsOut_22 : decode cX12_addsOut 22 = .ok (.dup2, 1) := by decide +kernel
theorem dX12_addsOut_23 : decode cX12_addsOut 23 = .ok (.iaload, 1) := by decide +kernel
theorem dX12_addsOut_24 : decode cX12_addsOut 24 = .ok (.iconst 1, 1) := by decide +kernel
theorem dX12_addsOut_25 : decode cX12_addsOut 25 = .ok (.iadd, 1) := by decide +kernel
theorem dX12_addsOut_26 : decode cX12_addsOut 26 = .ok (.iastore, 1) := by decide +kernel
theorem dX12_addsOut_27 : decode cX12_addsOut 27 = .ok (.aload_n 0, 1) := by decide +kernel
theorem dX12_addsOut_28 : decode cX12_addsOut 28 = .ok (.getfield 31, 3) := by decide +kernel
theorem dX12_addsOut_31 : decode cX12_addsOut 31 = .ok (.iload_n 1, 1) := by decide +kernel
theorem dX12_addsOut_32 : decode cX12_addsOut 32 = .ok (.iaload, 1) := by decide +kernel
theorem dX12_addsOut_33 : decode cX12_addsOut 33 = .ok (.iconst 1, 1) := by decide +kernel
theorem dX12_addsOut_34 : decode cX12_addsOut 34 = .ok (.isub, 1) := by decide +kernel
theorem dX12_addsOut_35 : decode cX12_addsOut 35 = .ok (.ireturn, 1) := by decide +kernel
set_option maxRecDepth 20000 in
theorem ggX12_input_X12_isNet : GoodIn wsX12_input wsX12_isNet := goodIn_r _ [7, 8, 9, 6, 10] (by decide +kernel) (by decide +kernel)
set_option maxRecDepth 20000 in
theorem gX12_input_X12_isNet : GoodIn wsX12_input (va_wsS RX12 81 yX12_isNet wsX12_isNet) := goodIn_app (goodIn_of _ (by decide +kernel)) ggX12_input_X12_isNet
set_option maxRecDepth 20000 in
theorem ggX12_input_X12_adds : GoodIn wsX12_input wsX12_adds := goodIn_r _ [14, 1, 15, 16, 17, 18, 2, 19, 20, 21, 22, 23, 24, 25, 26, 27, 28, 29, 30, 31, 32, 33, 34, 35, 36, 37, 38, 39, 40, 41] (by decide +kernel) (by decide +kernel)
set_option maxRecDepth 20000 in
theorem gX12_input_X12_adds : GoodIn wsX12_input (wsV RX12 85 RX12 yX12_adds wsX12_adds) := goodIn_app (goodIn_of _ (by decide +kernel)) ggX12_input_X12_adds
theorem dX12_input_0 : decode cX12_input 0 = .ok (.aload_n 0, 1) := by decide +kernel
theorem dX12_input_1 : decode cX12_input 1 = .ok (.iload_n 1, 1) := by decide +kernel
theorem dX12_input_2 : decode cX12_input 2 = .ok (.invokestatic 81, 3) := by decide +kernel
theorem dX12_input_5 : decode cX12_input 5 = .ok (.ifCond .ne 7, 3) := by decide +kernel
theorem dX12_input_8 : decode cX12_input 8 = .ok (.iconst 1, 1) := by decide +kernel
theorem dX12_input_9 : decode cX12_input 9 = .ok (.goto 30, 3) := by decide +kernel
theorem dX12_input_12 : decode cX12_input 12 = .ok (.aload_n 0, 1) := by decide +kernel
theorem dX12_input_13 : decode cX12_input 13 = .ok (.getfield 22, 3) := by decide +kernel
theorem dX12_input_16 : decode cX12_input 16 = .ok (.iload_n 1, 1) := by decide +kernel
theorem dX12_input_17 : decode cX12_input 17 = .ok (.iaload, 1) := by decide +kernel
theorem dX12_input_18 : decode cX12_input 18 = .ok (.bipush 120, 2) := by decide +kernel
theorem dX12_input_20 : decode cX12_input 20 = .ok (.if_icmp .eq 14, 3) := by decide +kernel
theorem dX12_input_23 : decode cX12_input 23 = .ok (.aload_n 0, 1) := by decide +kernel
theorem dX12_input_24 : decode cX12_input 24 = .ok (.getfield 25, 3) := by decide +kernel
theorem dX12_input_27 : decode cX12_input 27 = .ok (.iload_n 1, 1) := by decide +kernel
theorem dX12_input_28 : decode cX12_input 28 = .ok (.iaload, 1) := by decide +kernel
theorem dX12_input_29 : decode cX12_input 29 = .ok (.bipush 30, 2) := by decide +kernel
theorem dX12_input_31 : decode cX12_input 31 = .ok (.if_icmp .ne 7, 3) := by decide +kernel
theorem dX12_input_34 : decode cX12_input 34 = .ok (.iconst 2, 1) := by decide +kernel
theorem dX12_input_35 : decode cX12_input 35 = .ok (.goto 4, 3) := by decide +kernel
theorem dX12_input_38 : decode cX12_input 38 = .ok (.iconst 0, 1) := by decide +kernel
theorem dX12_input_39 : decode cX12_input 39 = .ok (.putfield 73, 3) := by decide +kernel
theorem dX12_input_42 : decode cX12_input 42 = .ok (.aload_n 0, 1) := by decide +kernel
theorem dX12_input_43 : decode cX12_input 43 = .ok (.getfield 73, 3) := by decide +kernel
theorem dX12_input_46 : decode cX12_input 46 = .ok (.ifCond .le 7, 3) := by decide +kernel
theorem dX12_input_49 : decode cX12_input 49 = .ok (.iconst 0, 1) := by decide +kernel
theorem dX12_input_50 : decode cX12_input 50 = .ok (.goto 11, 3) := by decide +kernel
theorem dX12_input_53 : decode cX12_input 53 = .ok (.aload_n 0, 1) := by decide +kernel
theorem dX12_input_54 : decode cX12_input 54 = .ok (.iload_n 1, 1) := by decide +kernel
theorem dX12_input_55 : decode cX12_input 55 = .ok (.iconst 4, 1) := by decide +kernel
theorem dX12_input_56 : decode cX12_input 56 = .ok (.iconst (-1), 1) := by decide +kernel
theorem dX12_input_57 : decode cX12_input 57 = .ok (.iconst (-1), 1) := by decide +kernel
theorem dX12_input_58 : decode cX12_input 58 = .ok (.invokevirtual 85, 3) := by decide +kernel
theorem dX12_input_61 : decode cX12_input 61 = .ok (.ireturn, 1) := by decide +kernel
set_option maxRecDepth 20000 in
theorem ggX12_gate_X12_isNet : GoodIn wsX12_gate wsX12_isNet := goodIn_r _ [6, 7, 8, 5, 9] (by decide +kernel) (by decide +kernel)
set_option maxRecDepth 20000 in
theorem gX12_gate_X12_isNet : GoodIn wsX12_gate (va_wsS RX12 81 yX12_isNet wsX12_isNet) := goodIn_app (goodIn_of _ (by decide +kernel)) ggX12_gate_X12_isNet
set_option maxRecDepth 20000 in
theorem ggX12_gate_X12_isIn : GoodIn wsX12_gate wsX12_isIn := goodIn_r _ [9] (by decide +kernel) (by decide +kernel)
set_option maxRecDepth 20000 in
theorem gX12_gate_X12_isIn : GoodIn wsX12_gate (va_wsS RX12 77 yX12_isIn wsX12_isIn) := goodIn_app (goodIn_of _ (by decide +kernel)) ggX12_gate_X12_isIn
set_option maxRecDepth 20000 in
theorem ggX12_gate_X12_isGate : GoodIn wsX12_gate wsX12_isGate := goodIn_r _ [13, 1, 3, 4, 5, 6, 7, 8, 9, 23, 24, 25, 26, 27, 28, 29, 30, 31, 32, 33, 34, 35, 36, 37, 38, 39, 40, 41, 42, 43, 44, 45] (by decide +kernel) (by decide +kernel)
set_option maxRecDepth 20000 in
theorem gX12_gate_X12_isGate : GoodIn wsX12_gate (wsV RX12 89 RX12 yX12_isGate wsX12_isGate) := goodIn_app (goodIn_of _ (by decide +kernel)) ggX12_gate_X12_isGate
set_option maxRecDepth 20000 in
theorem ggX12_gate_X12_adds : GoodIn wsX12_gate wsX12_adds := goodIn_r _ [17, 1, 18, 19, 20, 21, 22, 23, 24, 25, 26, 27, 28, 29, 30, 31, 32, 33, 34, 35, 36, 37, 38, 39, 40, 41, 42, 43, 44, 45] (by decide +kernel) (by decide +kernel)
set_option maxRecDepth 20000 in
theorem gX12_gate_X12_adds : GoodIn wsX12_gate (wsV RX12 85 RX12 yX12_adds wsX12_adds) := goodIn_app (goodIn_of _ (by decide +kernel)) ggX12_gate_X12_adds
theorem dX12_gate_0 : decode cX12_gate 0 = .ok (.iload_n 1, 1) := by decide +kernel
theorem dX12_gate_1 : decode cX12_gate 1 = .ok (.invokestatic 81, 3) := by decide +kernel
theorem dX12_gate_4 : decode cX12_gate 4 = .ok (.ifCond .eq 40, 3) := by decide +kernel
theorem dX12_gate_7 : decode cX12_gate 7 = .ok (.iload_n 2, 1) := by decide +kernel
theorem dX12_gate_8 : decode cX12_gate 8 = .ok (.iconst 0, 1) := by decide +kernel
theorem dX12_gate_9 : decode cX12_gate 9 = .ok (.iconst 3, 1) := by decide +kernel
theorem dX12_gate_10 : decode cX12_gate 10 = .ok (.invokestatic 77, 3) := by decide +kernel
theorem dX12_gate_13 : decode cX12_gate 13 = .ok (.ifCond .eq 31, 3) := by decide +kernel
theorem dX12_gate_16 : decode cX12_gate 16 = .ok (.aload_n 0, 1) := by decide +kernel
theorem dX12_gate_17 : decode cX12_gate 17 = .ok (.iload_n 1, 1) := by decide +kernel
theorem dX12_gate_18 : decode cX12_gate 18 = .ok (.iload_n 3, 1) := by decide +kernel
theorem dX12_gate_19 : decode cX12_gate 19 = .ok (.invokevirtual 89, 3) := by decide +kernel
theorem dX12_gate_22 : decode cX12_gate 22 = .ok (.ifCond .eq 22, 3) := by decide +kernel
theorem dX12_gate_25 : decode cX12_gate 25 = .ok (.iload_n 2, 1) := by decide +kernel
theorem dX12_gate_26 : decode cX12_gate 26 = .ok (.iconst 3, 1) := by decide +kernel
theorem dX12_gate_27 : decode cX12_gate 27 = .ok (.if_icmp .eq 13, 3) := by decide +kernel
theorem dX12_gate_30 : decode cX12_gate 30 = .ok (.aload_n 0, 1) := by decide +kernel
theorem dX12_gate_31 : decode cX12_gate 31 = .ok (.iload_n 1, 1) := by decide +kernel
theorem dX12_gate_32 : decode cX12_gate 32 = .ok (.iload 4, 2) := by decide +kernel
theorem dX12_gate_34 : decode cX12_gate 34 = .ok (.invokevirtual 89, 3) := by decide +kernel
theorem dX12_gate_37 : decode cX12_gate 37 = .ok (.ifCond .eq 7, 3) := by decide +kernel
theorem dX12_gate_40 : decode cX12_gate 40 = .ok (.iconst 1, 1) := by decide +kernel
theorem dX12_gate_41 : decode cX12_gate 41 = .ok (.goto 4, 3) := by decide +kernel
theorem dX12_gate_44 : decode cX12_gate 44 = .ok (.iconst 0, 1) := by decide +kernel
theorem dX12_gate_45 : decode cX12_gate 45 = .ok (.istore 5, 2) := by decide +kernel
theorem dX12_gate_47 : decode cX12_gate 47 = .ok (.aload_n 0, 1) := by decide +kernel
theorem dX12_gate_48 : decode cX12_gate 48 = .ok (.iload 5, 2) := by decide +kernel
theorem dX12_gate_50 : decode cX12_gate 50 = .ok (.ifCond .ne 7, 3) := by decide +kernel
theorem dX12_gate_53 : decode cX12_gate 53 = .ok (.iconst 1, 1) := by decide +kernel
theorem dX12_gate_54 : decode cX12_gate 54 = .ok (.goto 19, 3) := by decide +kernel
theorem dX12_gate_57 : decode cX12_gate 57 = .ok (.aload_n 0, 1) := by decide +kernel
theorem dX12_gate_58 : decode cX12_gate 58 = .ok (.getfield 22, 3) := by decide +kernel
theorem dX12_gate_61 : decode cX12_gate 61 = .ok (.iload_n 1, 1) := by decide +kernel
theorem dX12_gate_62 : decode cX12_gate 62 = .ok (.iaload, 1) := by decide +kernel
theorem dX12_gate_63 : decode cX12_gate 63 = .ok (.bipush 120, 2) := by decide +kernel
theorem dX12_gate_65 : decode cX12_gate 65 = .ok (.if_icmp .ne 7, 3) := by decide +kernel
theorem dX12_gate_68 : decode cX12_gate 68 = .ok (.iconst 2, 1) := by decide +kernel
theorem dX12_gate_69 : decode cX12_gate 69 = .ok (.goto 4, 3) := by decide +kernel
theorem dX12_gate_72 : decode cX12_gate 72 = .ok (.iconst 0, 1) := by decide +kernel
theorem dX12_gate_73 : decode cX12_gate 73 = .ok (.putfield 73, 3) := by decide +kernel
theorem dX12_gate_76 : decode cX12_gate 76 = .ok (.aload_n 0, 1) := by decide +kernel
theorem dX12_gate_77 : decode cX12_gate 77 = .ok (.getfield 73, 3) := by decide +kernel
theorem dX12_gate_80 : decode cX12_gate 80 = .ok (.ifCond .le 7, 3) := by decide +kernel
theorem dX12_gate_83 : decode cX12_gate 83 = .ok (.iconst 0, 1) := by decide +kernel
theorem dX12_gate_84 : decode cX12_gate 84 = .ok (.goto 12, 3) := by decide +kernel
theorem dX12_gate_87 : decode cX12_gate 87 = .ok (.aload_n 0, 1) := by decide +kernel
theorem dX12_gate_88 : decode cX12_gate 88 = .ok (.iload_n 1, 1) := by decide +kernel
theorem dX12_gate_89 : decode cX12_gate 89 = .ok (.iload_n 2, 1) := by decide +kernel
theorem dX12_gate_90 : decode cX12_gate 90 = .ok (.iload_n 3, 1) := by decide +kernel
theorem dX12_gate_91 : decode cX12_gate 91 = .ok (.iload 4, 2) := by decide +kernel
theorem dX12_gate_93 : decode cX12_gate 93 = .ok (.invokevirtual 85, 3) := by decide +kernel
theorem dX12_gate_96 : decode cX12_gate 96 = .ok (.ireturn, 1) := by decide +kernel
set_option maxRecDepth 20000 in
theorem ggX12_out_X12_isGate : GoodIn wsX12_out wsX12_isGate := goodIn_r _ [7, 8, 9, 10, 6, 11, 12, 13, 14, 20, 21, 22, 23, 24, 25, 26, 27, 28, 29, 30, 31, 32, 33, 34, 35, 36, 37, 38, 39, 40, 41, 42] (by decide +kernel) (by decide +kernel)
set_option maxRecDepth 20000 in
theorem gX12_out_X12_isGate : GoodIn wsX12_out (wsV RX12 89 RX12 yX12_isGate wsX12_isGate) := goodIn_app (goodIn_of _ (by decide +kernel)) ggX12_out_X12_isGate
set_option maxRecDepth 20000 in
theorem ggX12_out_X12_addsOut : GoodIn wsX12_out wsX12_addsOut := goodIn_r _ [18, 19, 1, 20, 21, 22, 23, 24, 25, 26, 27, 28, 29, 30, 31, 32, 33, 34, 35, 36, 37, 38, 39, 40, 41, 42] (by decide +kernel) (by decide +kernel)
set_option maxRecDepth 20000 in
theorem gX12_out_X12_addsOut : GoodIn wsX12_out (wsV RX12 93 RX12 yX12_addsOut wsX12_addsOut) := goodIn_app (goodIn_of _ (by decide +kernel)) ggX12_out_X12_addsOut
theorem dX12_out_0 : decode cX12_out 0 = .ok (.aload_n 0, 1) := by decide +kernel
theorem dX12_out_1 : decode cX12_out 1 = .ok (.aload_n 0, 1) := by decide +kernel
theorem dX12_out_2 : decode cX12_out 2 = .ok (.iload_n 1, 1) := by decide +kernel
theorem dX12_out_3 : decode cX12_out 3 = .ok (.iload_n 2, 1) := by decide +kernel
theorem dX12_out_4 : decode cX12_out 4 = .ok (.invokevirtual 89, 3) := by decide +kernel
theorem dX12_out_7 : decode cX12_out 7 = .ok (.ifCond .ne 7, 3) := by decide +kernel
theorem dX12_out_10 : decode cX12_out 10 = .ok (.iconst 1, 1) := by decide +kernel
theorem dX12_out_11 : decode cX12_out 11 = .ok (.goto 19, 3) := by decide +kernel
theorem dX12_out_14 : decode cX12_out 14 = .ok (.aload_n 0, 1) := by decide +kernel
theorem dX12_out_15 : decode cX12_out 15 = .ok (.getfield 31, 3) := by decide +kernel
theorem dX12_out_18 : decode cX12_out 18 = .ok (.iload_n 1, 1) := by decide +kernel
theorem dX12_out_19 : decode cX12_out 19 = .ok (.iaload, 1) := by decide +kernel
theorem dX12_out_20 : decode cX12_out 20 = .ok (.bipush 16, 2) := by decide +kernel
theorem dX12_out_22 : decode cX12_out 22 = .ok (.if_icmp .ne 7, 3) := by decide +kernel
theorem dX12_out_25 : decode cX12_out 25 = .ok (.iconst 2, 1) := by decide +kernel
theorem dX12_out_26 : decode cX12_out 26 = .ok (.goto 4, 3) := by decide +kernel
theorem dX12_out_29 : decode cX12_out 29 = .ok (.iconst 0, 1) := by decide +kernel
theorem dX12_out_30 : decode cX12_out 30 = .ok (.putfield 73, 3) := by decide +kernel
theorem dX12_out_33 : decode cX12_out 33 = .ok (.aload_n 0, 1) := by decide +kernel
theorem dX12_out_34 : decode cX12_out 34 = .ok (.getfield 73, 3) := by decide +kernel
theorem dX12_out_37 : decode cX12_out 37 = .ok (.ifCond .le 7, 3) := by decide +kernel
theorem dX12_out_40 : decode cX12_out 40 = .ok (.iconst 0, 1) := by decide +kernel
theorem dX12_out_41 : decode cX12_out 41 = .ok (.goto 9, 3) := by decide +kernel
theorem dX12_out_44 : decode cX12_out 44 = .ok (.aload_n 0, 1) := by decide +kernel
theorem dX12_out_45 : decode cX12_out 45 = .ok (.iload_n 1, 1) := by decide +kernel
theorem dX12_out_46 : decode cX12_out 46 = .ok (.iload_n 2, 1) := by decide +kernel
theorem dX12_out_47 : decode cX12_out 47 = .ok (.invokevirtual 93, 3) := by decide +kernel
theorem dX12_out_50 : decode cX12_out 50 = .ok (.ireturn, 1) := by decide +kernel
set_option maxRecDepth 20000 in
theorem ggX12_half_X12_adds : GoodIn wsX12_half wsX12_adds := goodIn_r _ [6, 7, 8, 9, 10, 11, 12, 13, 14, 15, 16, 17, 18, 19, 20, 21, 22, 23, 24, 25, 26, 27, 28, 29, 30, 31, 32, 33, 34, 35] (by decide +kernel) (by decide +kernel)
set_option maxRecDepth 20000 in
theorem gX12_half_X12_adds : GoodIn wsX12_half (wsV RX12 85 RX12 yX12_adds wsX12_adds) := goodIn_app (goodIn_of _ (by decide +kernel)) ggX12_half_X12_adds
theorem dX12_half_0 : decode cX12_half 0 = .ok (.aload_n 0, 1) := by decide +kernel
theorem dX12_half_1 : decode cX12_half 1 = .ok (.iload_n 1, 1) := by decide +kernel
theorem dX12_half_2 : decode cX12_half 2 = .ok (.iconst 2, 1) := by decide +kernel
theorem dX12_half_3 : decode cX12_half 3 = .ok (.iload_n 2, 1) := by decide +kernel
theorem dX12_half_4 : decode cX12_half 4 = .ok (.iload_n 3, 1) := by decide +kernel
theorem dX12_half_5 : decode cX12_half 5 = .ok (.invokevirtual 85, 3) := by decide +kernel
theorem dX12_half_8 : decode cX12_half 8 = .ok (.istore 4, 2) := by decide +kernel
theorem dX12_half_10 : decode cX12_half 10 = .ok (.aload_n 0, 1) := by decide +kernel
theorem dX12_half_11 : decode cX12_half 11 = .ok (.aload_n 0, 1) := by decide +kernel
theorem dX12_half_12 : decode cX12_half 12 = .ok (.iload_n 1, 1) := by decide +kernel
theorem dX12_half_13 : decode cX12_half 13 = .ok (.iconst 0, 1) := by decide +kernel
theorem dX12_half_14 : decode cX12_half 14 = .ok (.iload_n 2, 1) := by decide +kernel
theorem dX12_half_15 : decode cX12_half 15 = .ok (.iload_n 3, 1) := by decide +kernel
theorem dX12_half_16 : decode cX12_half 16 = .ok (.invokevirtual 85, 3) := by decide +kernel
theorem dX12_half_19 : decode cX12_half 19 = .ok (.putfield 97, 3) := by decide +kernel
theorem dX12_half_22 : decode cX12_half 22 = .ok (.iload 4, 2) := by decide +kernel
theorem dX12_half_24 : decode cX12_half 24 = .ok (.ireturn, 1) := by decide +kernel
set_option maxRecDepth 20000 in
theorem ggX12_full_X12_adds : GoodIn wsX12_full wsX12_adds := goodIn_r _ [6, 7, 8, 9, 10, 11, 12, 13, 14, 15, 16, 17, 18, 19, 20, 21, 22, 23, 24, 25, 26, 27, 28, 29, 30, 31, 32, 33, 34, 35] (by decide +kernel) (by decide +kernel)
set_option maxRecDepth 20000 in
theorem gX12_full_X12_adds : GoodIn wsX12_full (wsV RX12 85 RX12 yX12_adds wsX12_adds) := goodIn_app (goodIn_of _ (by decide +kernel)) ggX12_full_X12_adds
theorem dX12_full_0 : decode cX12_full 0 = .ok (.aload_n 0, 1) := by decide +kernel
theorem dX12_full_1 : decode cX12_full 1 = .ok (.iload_n 1, 1) := by decide +kernel
theorem dX12_full_2 : decode cX12_full 2 = .ok (.iconst 2, 1) := by decide +kernel
theorem dX12_full_3 : decode cX12_full 3 = .ok (.iload_n 2, 1) := by decide +kernel
theorem dX12_full_4 : decode cX12_full 4 = .ok (.iload_n 3, 1) := by decide +kernel
theorem dX12_full_5 : decode cX12_full 5 = .ok (.invokevirtual 85, 3) := by decide +kernel
theorem dX12_full_8 : decode cX12_full 8 = .ok (.istore 5, 2) := by decide +kernel
theorem dX12_full_10 : decode cX12_full 10 = .ok (.aload_n 0, 1) := by decide +kernel
theorem dX12_full_11 : decode cX12_full 11 = .ok (.iload_n 1, 1) := by decide +kernel
theorem dX12_full_12 : decode cX12_full 12 = .ok (.iconst 2, 1) := by decide +kernel
theorem dX12_full_13 : decode cX12_full 13 = .ok (.iload 5, 2) := by decide +kernel
theorem dX12_full_15 : decode cX12_full 15 = .ok (.iload 4, 2) := by decide +kernel
theorem dX12_full_17 : decode cX12_full 17 = .ok (.invokevirtual 85, 3) := by decide +kernel
theorem dX12_full_20 : decode cX12_full 20 = .ok (.istore 6, 2) := by decide +kernel
theorem dX12_full_22 : decode cX12_full 22 = .ok (.aload_n 0, 1) := by decide +kernel
theorem dX12_full_23 : decode cX12_full 23 = .ok (.iload_n 1, 1) := by decide +kernel
theorem dX12_full_24 : decode cX12_full 24 = .ok (.iconst 0, 1) := by decide +kernel
theorem dX12_full_25 : decode cX12_full 25 = .ok (.iload_n 2, 1) := by decide +kernel
theorem dX12_full_26 : decode cX12_full 26 = .ok (.iload_n 3, 1) := by decide +kernel
theorem dX12_full_27 : decode cX12_full 27 = .ok (.invokevirtual 85, 3) := by decide +kernel
theorem dX12_full_30 : decode cX12_full 30 = .ok (.istore 7, 2) := by decide +kernel
theorem dX12_full_32 : decode cX12_full 32 = .ok (.aload_n 0, 1) := by decide +kernel
theorem dX12_full_33 : decode cX12_full 33 = .ok (.iload_n 1, 1) := by decide +kernel
theorem dX12_full_34 : decode cX12_full 34 = .ok (.iconst 0, 1) := by decide +kernel
theorem dX12_full_35 : decode cX12_full 35 = .ok (.iload 5, 2) := by decide +kernel
theorem dX12_full_37 : decode cX12_full 37 = .ok (.iload 4, 2) := by decide +kernel
theorem dX12_full_39 : decode cX12_full 39 = .ok (.invokevirtual 85, 3) := by decide +kernel
theorem dX12_full_42 : decode cX12_full 42 = .ok (.istore 8, 2) := by decide +kernel
theorem dX12_full_44 : decode cX12_full 44 = .ok (.aload_n 0, 1) := by decide +kernel
theorem dX12_full_45 : decode cX12_full 45 = .ok (.aload_n 0, 1) := by decide +kernel
theorem dX12_full_46 : decode cX12_full 46 = .ok (.iload_n 1, 1) := by decide +kernel
theorem dX12_full_47 : decode cX12_full 47 = .ok (.iconst 1, 1) := by decide +kernel
theorem dX12_full_48 : decode cX12_full 48 = .ok (.iload 7, 2) := by decide +kernel
theorem dX12_full_50 : decode cX12_full 50 = .ok (.iload 8, 2) := by decide +kernel
theorem dX12_full_52 : decode cX12_full 52 = .ok (.invokevirtual 85, 3) := by decide +kernel
theorem dX12_full_55 : decode cX12_full 55 = .ok (.putfield 97, 3) := by decide +kernel
theorem dX12_full_58 : decode cX12_full 58 = .ok (.iload 6, 2) := by decide +kernel
theorem dX12_full_60 : decode cX12_full 60 = .ok (.ireturn, 1) := by decide +kernel
set_option maxRecDepth 20000 in
theorem ggX12_ripples_X12_half : GoodIn wsX12_ripples wsX12_half := goodIn_r _ [7, 2, 8, 9, 10, 6, 11, 12, 13, 14, 15, 16, 17, 28, 29, 30, 31, 32, 33, 34, 35, 36, 37, 38, 39, 40, 41, 42, 43, 44, 45, 46, 47, 48, 49, 50] (by decide +kernel) (by decide +kernel)
set_option maxRecDepth 20000 in
theorem gX12_ripples_X12_half : GoodIn wsX12_ripples (wsV RX12 100 RX12 yX12_half wsX12_half) := goodIn_app (goodIn_of _ (by decide +kernel)) ggX12_ripples_X12_half
set_option maxRecDepth 20000 in
theorem ggX12_ripples_X12_full : GoodIn wsX12_ripples wsX12_full := goodIn_r _ [21, 2, 8, 9, 10, 6, 11, 12, 13, 14, 15, 16, 17, 28, 29, 30, 31, 32, 33, 34, 35, 36, 37, 38, 39, 40, 41, 42, 43, 44, 45, 46, 47, 48, 49, 50] (by decide +kernel) (by decide +kernel)
set_option maxRecDepth 20000 in
theorem gX12_ripples_X12_full : GoodIn wsX12_ripples (wsV RX12 104 RX12 yX12_full wsX12_full) := goodIn_app (goodIn_of _ (by decide +kernel)) ggX12_ripples_X12_full
set_option maxRecDepth 20000 in
theorem ggX12_ripples_X12_addsOut : GoodIn wsX12_ripples wsX12_addsOut := goodIn_r _ [25, 26, 27, 28, 29, 30, 31, 32, 33, 34, 35, 36, 37, 38, 39, 40, 41, 42, 43, 44, 45, 46, 47, 48, 49, 50] (by decide +kernel) (by decide +kernel)
set_option maxRecDepth 20000 in
theorem gX12_ripples_X12_addsOut : GoodIn wsX12_ripples (wsV RX12 93 RX12 yX12_addsOut wsX12_addsOut) := goodIn_app (goodIn_of _ (by decide +kernel)) ggX12_ripples_X12_addsOut
theorem dX12_ripples_0 : decode cX12_ripples 0 = .ok (.iconst 0, 1) := by decide +kernel
theorem dX12_ripples_1 : decode cX12_ripples 1 = .ok (.istore_n 3, 1) := by decide +kernel
theorem dX12_ripples_2 : decode cX12_ripples 2 = .ok (.iload_n 3, 1) := by decide +kernel
theorem dX12_ripples_3 : decode cX12_ripples 3 = .ok (.iload_n 2, 1) := by decide +kernel
theorem dX12_ripples_4 : decode cX12_ripples 4 = .ok (.if_icmp .ge 42, 3) := by decide +kernel
theorem dX12_ripples_7 : decode cX12_ripples 7 = .ok (.aload_n 0, 1) := by decide +kernel
theorem dX12_ripples_8 : decode cX12_ripples 8 = .ok (.getfield 67, 3) := by decide +kernel
theorem dX12_ripples_11 : decode cX12_ripples 11 = .ok (.iload_n 3, 1) := by decide +kernel
theorem dX12_ripples_12 : decode cX12_ripples 12 = .ok (.iload_n 3, 1) := by decide +kernel
theorem dX12_ripples_13 : decode cX12_ripples 13 = .ok (.ifCond .ne 13, 3) := by decide +kernel
theorem dX12_ripples_16 : decode cX12_ripples 16 = .ok (.aload_n 0, 1) := by decide +kernel
theorem dX12_ripples_17 : decode cX12_ripples 17 = .ok (.iload_n 1, 1) := by decide +kernel
theorem dX12_ripples_18 : decode cX12_ripples 18 = .ok (.iconst 0, 1) := by decide +kernel
theorem dX12_ripples_19 : decode cX12_ripples 19 = .ok (.iload_n 2, 1) := by decide +kernel
theorem dX12_ripples_20 : decode cX12_ripples 20 = .ok (.invokevirtual 100, 3) := by decide +kernel
theorem dX12_ripples_23 : decode cX12_ripples 23 = .ok (.goto 16, 3) := by decide +kernel
theorem dX12_ripples_26 : decode cX12_ripples 26 = .ok (.aload_n 0, 1) := by decide +kernel
theorem dX12_ripples_27 : decode cX12_ripples 27 = .ok (.iload_n 1, 1) := by decide +kernel
theorem dX12_ripples_28 : decode cX12_ripples 28 = .ok (.iload_n 3, 1) := by decide +kernel
theorem dX12_ripples_29 : decode cX12_ripples 29 = .ok (.iload_n 2, 1) := by decide +kernel
theorem dX12_ripples_30 : decode cX12_ripples 30 = .ok (.iload_n 3, 1) := by decide +kernel
theorem dX12_ripples_31 : decode cX12_ripples 31 = .ok (.iadd, 1) := by decide +kernel
theorem dX12_ripples_32 : decode cX12_ripples 32 = .ok (.aload_n 0, 1) := by decide +kernel
theorem dX12_ripples_33 : decode cX12_ripples 33 = .ok (.getfield 97, 3) := by decide +kernel
theorem dX12_ripples_36 : decode cX12_ripples 36 = .ok (.invokevirtual 104, 3) := by decide +kernel
theorem dX12_ripples_39 : decode cX12_ripples 39 = .ok (.iastore, 1) := by decide +kernel
theorem dX12_ripples_40 : decode cX12_ripples 40 = .ok (.iinc 3 1, 3) := by decide +kernel
theorem dX12_ripples_43 : decode cX12_ripples 43 = .ok (.goto (-41), 3) := by decide +kernel
theorem dX12_ripples_46 : decode cX12_ripples 46 = .ok (.iconst 0, 1) := by decide +kernel
theorem dX12_ripples_47 : decode cX12_ripples 47 = .ok (.istore_n 3, 1) := by decide +kernel
theorem dX12_ripples_48 : decode cX12_ripples 48 = .ok (.iload_n 3, 1) := by decide +kernel
theorem dX12_ripples_49 : decode cX12_ripples 49 = .ok (.iload_n 2, 1) := by decide +kernel
theorem dX12_ripples_50 : decode cX12_ripples 50 = .ok (.if_icmp .ge 21, 3) := by decide +kernel
theorem dX12_ripples_53 : decode cX12_ripples 53 = .ok (.aload_n 0, 1) := by decide +kernel
theorem dX12_ripples_54 : decode cX12_ripples 54 = .ok (.iload_n 1, 1) := by decide +kernel
theorem dX12_ripples_55 : decode cX12_ripples 55 = .ok (.aload_n 0, 1) := by decide +kernel
theorem dX12_ripples_56 : decode cX12_ripples 56 = .ok (.getfield 67, 3) := by decide +kernel
theorem dX12_ripples_59 : decode cX12_ripples 59 = .ok (.iload_n 3, 1) := by decide +kernel
theorem dX12_ripples_60 : decode cX12_ripples 60 = .ok (.iaload, 1) := by decide +kernel
theorem dX12_ripples_61 : decode cX12_ripples 61 = .ok (.invokevirtual 93, 3) := by decide +kernel
theorem dX12_ripples_64 : decode cX12_ripples 64 = .ok (.pop, 1) := by decide +kernel
theorem dX12_ripples_65 : decode cX12_ripples 65 = .ok (.iinc 3 1, 3) := by decide +kernel
theorem dX12_ripples_68 : decode cX12_ripples 68 = .ok (.goto (-20), 3) := by decide +kernel
theorem dX12_ripples_71 : decode cX12_ripples 71 = .ok (.aload_n 0, 1) := by decide +kernel
theorem dX12_ripples_72 : decode cX12_ripples 72 = .ok (.iload_n 1, 1) := by decide +kernel
theorem dX12_ripples_73 : decode cX12_ripples 73 = .ok (.aload_n 0, 1) := by decide +kernel
theorem dX12_ripples_74 : decode cX12_ripples 74 = .ok (.getfield 97, 3) := by decide +kernel
theorem dX12_ripples_77 : decode cX12_ripples 77 = .ok (.invokevirtual 93, 3) := by decide +kernel
theorem dX12_ripples_80 : decode cX12_ripples 80 = .ok (.pop, 1) := by decide +kernel
theorem dX12_ripples_81 : decode cX12_ripples 81 = .ok (.return_, 1) := by decide +kernel
set_option maxRecDepth 20000 in
theorem ggX12_joins_X12_adds : GoodIn wsX12_joins wsX12_adds := goodIn_r _ [10, 11, 12, 13, 14, 15, 16, 23, 24, 25, 26, 27, 28, 29, 30, 31, 32, 33, 34, 35, 36, 37, 38, 39, 40, 41, 42, 43, 44, 45] (by decide +kernel) (by decide +kernel)
set_option maxRecDepth 20000 in
theorem gX12_joins_X12_adds : GoodIn wsX12_joins (wsV RX12 85 RX12 yX12_adds wsX12_adds) := goodIn_app (goodIn_of _ (by decide +kernel)) ggX12_joins_X12_adds
set_option maxRecDepth 20000 in
theorem ggX12_joins_X12_addsOut : GoodIn wsX12_joins wsX12_addsOut := goodIn_r _ [20, 21, 22, 23, 24, 25, 26, 27, 28, 29, 30, 31, 32, 33, 34, 35, 36, 37, 38, 39, 40, 41, 42, 43, 44, 45] (by decide +kernel) (by decide +kernel)
set_option maxRecDepth 20000 in
theorem gX12_joins_X12_addsOut : GoodIn wsX12_joins (wsV RX12 93 RX12 yX12_addsOut wsX12_addsOut) := goodIn_app (goodIn_of _ (by decide +kernel)) ggX12_joins_X12_addsOut
theorem dX12_joins_0 : decode cX12_joins 0 = .ok (.iconst 0, 1) := by decide +kernel
theorem dX12_joins_1 : decode cX12_joins 1 = .ok (.istore 4, 2) := by decide +kernel
theorem dX12_joins_3 : decode cX12_joins 3 = .ok (.iload 4, 2) := by decide +kernel
theorem dX12_joins_5 : decode cX12_joins 5 = .ok (.iload_n 3, 1) := by decide +kernel
theorem dX12_joins_6 : decode cX12_joins 6 = .ok (.if_icmp .ge 61, 3) := by decide +kernel
theorem dX12_joins_9 : decode cX12_joins 9 = .ok (.aload_n 0, 1) := by decide +kernel
theorem dX12_joins_10 : decode cX12_joins 10 = .ok (.getfield 55, 3) := by decide +kernel
theorem dX12_joins_13 : decode cX12_joins 13 = .ok (.iload 4, 2) := by decide +kernel
theorem dX12_joins_15 : decode cX12_joins 15 = .ok (.aload_n 0, 1) := by decide +kernel
theorem dX12_joins_16 : decode cX12_joins 16 = .ok (.iload_n 1, 1) := by decide +kernel
theorem dX12_joins_17 : decode cX12_joins 17 = .ok (.iconst 2, 1) := by decide +kernel
theorem dX12_joins_18 : decode cX12_joins 18 = .ok (.iload 4, 2) := by decide +kernel
theorem dX12_joins_20 : decode cX12_joins 20 = .ok (.iload_n 3, 1) := by decide +kernel
theorem dX12_joins_21 : decode cX12_joins 21 = .ok (.iload 4, 2) := by decide +kernel
theorem dX12_joins_23 : decode cX12_joins 23 = .ok (.iadd, 1) := by decide +kernel
theorem dX12_joins_24 : decode cX12_joins 24 = .ok (.invokevirtual 85, 3) := by decide +kernel
theorem dX12_joins_27 : decode cX12_joins 27 = .ok (.iastore, 1) := by decide +kernel
theorem dX12_joins_28 : decode cX12_joins 28 = .ok (.aload_n 0, 1) := by decide +kernel
theorem dX12_joins_29 : decode cX12_joins 29 = .ok (.getfield 58, 3) := by decide +kernel
theorem dX12_joins_32 : decode cX12_joins 32 = .ok (.iload 4, 2) := by decide +kernel
theorem dX12_joins_34 : decode cX12_joins 34 = .ok (.aload_n 0, 1) := by decide +kernel
theorem dX12_joins_35 : decode cX12_joins 35 = .ok (.iload_n 1, 1) := by decide +kernel
theorem dX12_joins_36 : decode cX12_joins 36 = .ok (.iconst 0, 1) := by decide +kernel
theorem dX12_joins_37 : decode cX12_joins 37 = .ok (.iload 4, 2) := by decide +kernel
theorem dX12_joins_39 : decode cX12_joins 39 = .ok (.iload_n 3, 1) := by decide +kernel
theorem dX12_joins_40 : decode cX12_joins 40 = .ok (.iload 4, 2) := by decide +kernel
theorem dX12_joins_42 : decode cX12_joins 42 = .ok (.iadd, 1) := by decide +kernel
theorem dX12_joins_43 : decode cX12_joins 43 = .ok (.invokevirtual 85, 3) := by decide +kernel
theorem dX12_joins_46 : decode cX12_joins 46 = .ok (.iastore, 1) := by decide +kernel
theorem dX12_joins_47 : decode cX12_joins 47 = .ok (.aload_n 0, 1) := by decide +kernel
theorem dX12_joins_48 : decode cX12_joins 48 = .ok (.getfield 67, 3) := by decide +kernel
theorem dX12_joins_51 : decode cX12_joins 51 = .ok (.iload 4, 2) := by decide +kernel
theorem dX12_joins_53 : decode cX12_joins 53 = .ok (.aload_n 0, 1) := by decide +kernel
theorem dX12_joins_54 : decode cX12_joins 54 = .ok (.getfield 55, 3) := by decide +kernel
theorem dX12_joins_57 : decode cX12_joins 57 = .ok (.iload 4, 2) := by decide +kernel
theorem dX12_joins_59 : decode cX12_joins 59 = .ok (.iaload, 1) := by decide +kernel
theorem dX12_joins_60 : decode cX12_joins 60 = .ok (.iastore, 1) := by decide +kernel
theorem dX12_joins_61 : decode cX12_joins 61 = .ok (.iinc 4 1, 3) := by decide +kernel
theorem dX12_joins_64 : decode cX12_joins 64 = .ok (.goto (-61), 3) := by decide +kernel
theorem dX12_joins_67 : decode cX12_joins 67 = .ok (.iconst 1, 1) := by decide +kernel
theorem dX12_joins_68 : decode cX12_joins 68 = .ok (.istore 4, 2) := by decide +kernel
theorem dX12_joins_70 : decode cX12_joins 70 = .ok (.iload 4, 2) := by decide +kernel
theorem dX12_joins_72 : decode cX12_joins 72 = .ok (.iload_n 3, 1) := by decide +kernel
theorem dX12_joins_73 : decode cX12_joins 73 = .ok (.if_icmp .ge 237, 3) := by decide +kernel
theorem dX12_joins_76 : decode cX12_joins 76 = .ok (.iconst 0, 1) := by decide +kernel
theorem dX12_joins_77 : decode cX12_joins 77 = .ok (.istore 5, 2) := by decide +kernel
theorem dX12_joins_79 : decode cX12_joins 79 = .ok (.iload 5, 2) := by decide +kernel
theorem dX12_joins_81 : decode cX12_joins 81 = .ok (.iload_n 3, 1) := by decide +kernel
theorem dX12_joins_82 : decode cX12_joins 82 = .ok (.if_icmp .ge 176, 3) := by decide +kernel
theorem dX12_joins_85 : decode cX12_joins 85 = .ok (.iload_n 2, 1) := by decide +kernel
theorem dX12_joins_86 : decode cX12_joins 86 = .ok (.iconst 1, 1) := by decide +kernel
theorem dX12_joins_87 : decode cX12_joins 87 = .ok (.if_icmp .ne 22, 3) := by decide +kernel
theorem dX12_joins_90 : decode cX12_joins 90 = .ok (.iload 5, 2) := by decide +kernel
theorem dX12_joins_92 : decode cX12_joins 92 = .ok (.iload 4, 2) := by decide +kernel
theorem dX12_joins_94 : decode cX12_joins 94 = .ok (.idiv, 1) := by decide +kernel
theorem dX12_joins_95 : decode cX12_joins 95 = .ok (.iconst 2, 1) := by decide +kernel
theorem dX12_joins_96 : decode cX12_joins 96 = .ok (.irem, 1) := by decide +kernel
theorem dX12_joins_97 : decode cX12_joins 97 = .ok (.iconst 1, 1) := by decide +kernel
theorem dX12_joins_98 : decode cX12_joins 98 = .ok (.if_icmp .ne 7, 3) := by decide +kernel
theorem dX12_joins_101 : decode cX12_joins 101 = .ok (.iconst 1, 1) := by decide +kernel
theorem dX12_joins_102 : decode cX12_joins 102 = .ok (.goto 19, 3) := by decide +kernel
theorem dX12_joins_105 : decode cX12_joins 105 = .ok (.iconst 0, 1) := by decide +kernel
theorem dX12_joins_106 : decode cX12_joins 106 = .ok (.goto 15, 3) := by decide +kernel
theorem dX12_joins_109 : decode cX12_joins 109 = .ok (.iload 5, 2) := by decide +kernel
theorem dX12_joins_111 : decode cX12_joins 111 = .ok (.iload 4, 2) := by decide +kernel
theorem dX12_joins_113 : decode cX12_joins 113 = .ok (.if_icmp .lt 7, 3) := by decide +kernel
theorem dX12_joins_116 : decode cX12_joins 116 = .ok (.iconst 1, 1) := by decide +kernel
theorem dX12_joins_117 : decode cX12_joins 117 = .ok (.goto 4, 3) := by decide +kernel
theorem dX12_joins_120 : decode cX12_joins 120 = .ok (.iconst 0, 1) := by decide +kernel
theorem dX12_joins_121 : decode cX12_joins 121 = .ok (.istore 6, 2) := by decide +kernel
theorem dX12_joins_123 : decode cX12_joins 123 = .ok (.iload_n 2, 1) := by decide +kernel
theorem dX12_joins_124 : decode cX12_joins 124 = .ok (.iconst 1, 1) := by decide +kernel
theorem dX12_joins_125 : decode cX12_joins 125 = .ok (.if_icmp .ne 16, 3) := by decide +kernel
theorem dX12_joins_128 : decode cX12_joins 128 = .ok (.iload 5, 2) := by decide +kernel
theorem dX12_joins_130 : decode cX12_joins 130 = .ok (.iload 4, 2) := by decide +kernel
theorem dX12_joins_132 : decode cX12_joins 132 = .ok (.idiv, 1) := by decide +kernel
theorem dX12_joins_133 : decode cX12_joins 133 = .ok (.iload 4, 2) := by decide +kernel
theorem dX12_joins_135 : decode cX12_joins 135 = .ok (.imul, 1) := by decide +kernel
theorem dX12_joins_136 : decode cX12_joins 136 = .ok (.iconst 1, 1) := by decide +kernel
theorem dX12_joins_137 : decode cX12_joins 137 = .ok (.isub, 1) := by decide +kernel
theorem dX12_joins_138 : decode cX12_joins 138 = .ok (.goto 8, 3) := by decide +kernel
theorem dX12_joins_141 : decode cX12_joins 141 = .ok (.iload 5, 2) := by decide +kernel
theorem dX12_joins_143 : decode cX12_joins 143 = .ok (.iload 4, 2) := by decide +kernel
theorem dX12_joins_145 : decode cX12_joins 145 = .ok (.isub, 1) := by decide +kernel
theorem dX12_joins_146 : decode cX12_joins 146 = .ok (.istore 7, 2) := by decide +kernel
theorem dX12_joins_148 : decode cX12_joins 148 = .ok (.aload_n 0, 1) := by decide +kernel
theorem dX12_joins_149 : decode cX12_joins 149 = .ok (.getfield 61, 3) := by decide +kernel
theorem dX12_joins_152 : decode cX12_joins 152 = .ok (.iload 5, 2) := by decide +kernel
theorem dX12_joins_154 : decode cX12_joins 154 = .ok (.aload_n 0, 1) := by decide +kernel
theorem dX12_joins_155 : decode cX12_joins 155 = .ok (.getfield 55, 3) := by decide +kernel
theorem dX12_joins_158 : decode cX12_joins 158 = .ok (.iload 5, 2) := by decide +kernel
theorem dX12_joins_160 : decode cX12_joins 160 = .ok (.iaload, 1) := by decide +kernel
theorem dX12_joins_161 : decode cX12_joins 161 = .ok (.iastore, 1) := by decide +kernel
theorem dX12_joins_162 : decode cX12_joins 162 = .ok (.aload_n 0, 1) := by decide +kernel
theorem dX12_joins_163 : decode cX12_joins 163 = .ok (.getfield 64, 3) := by decide +kernel
theorem dX12_joins_166 : decode cX12_joins 166 = .ok (.iload 5, 2) := by decide +kernel
theorem dX12_joins_168 : decode cX12_joins 168 = .ok (.aload_n 0, 1) := by decide +kernel
theorem dX12_joins_169 : decode cX12_joins 169 = .ok (.getfield 58, 3) := by decide +kernel
theorem dX12_joins_172 : decode cX12_joins 172 = .ok (.iload 5, 2) := by decide +kernel
theorem dX12_joins_174 : decode cX12_joins 174 = .ok (.iaload, 1) := by decide +kernel
theorem dX12_joins_175 : decode cX12_joins 175 = .ok (.iastore, 1) := by decide +kernel
theorem dX12_joins_176 : decode cX12_joins 176 = .ok (.iload 6, 2) := by decide +kernel
theorem dX12_joins_178 : decode cX12_joins 178 = .ok (.ifCond .eq 74, 3) := by decide +kernel
theorem dX12_joins_181 : decode cX12_joins 181 = .ok (.aload_n 0, 1) := by decide +kernel
theorem dX12_joins_182 : decode cX12_joins 182 = .ok (.iload_n 1, 1) := by decide +kernel
theorem dX12_joins_183 : decode cX12_joins 183 = .ok (.iconst 0, 1) := by decide +kernel
theorem dX12_joins_184 : decode cX12_joins 184 = .ok (.aload_n 0, 1) := by decide +kernel
theorem dX12_joins_185 : decode cX12_joins 185 = .ok (.getfield 55, 3) := by decide +kernel
theorem dX12_joins_188 : decode cX12_joins 188 = .ok (.iload 5, 2) := by decide +kernel
theorem dX12_joins_190 : decode cX12_joins 190 = .ok (.iaload, 1) := by decide +kernel
theorem dX12_joins_191 : decode cX12_joins 191 = .ok (.aload_n 0, 1) := by decide +kernel
theorem dX12_joins_192 : decode cX12_joins 192 = .ok (.getfield 58, 3) := by decide +kernel
theorem dX12_joins_195 : decode cX12_joins 195 = .ok (.iload 7, 2) := by decide +kernel
theorem dX12_joins_197 : decode cX12_joins 197 = .ok (.iaload, 1) := by decide +kernel
theorem dX12_joins_198 : decode cX12_joins 198 = .ok (.invokevirtual 85, 3) := by decide +kernel
theorem dX12_joins_201 : decode cX12_joins 201 = .ok (.istore 8, 2) := by decide +kernel
theorem dX12_joins_203 : decode cX12_joins 203 = .ok (.aload_n 0, 1) := by decide +kernel
theorem dX12_joins_204 : decode cX12_joins 204 = .ok (.getfield 64, 3) := by decide +kernel
theorem dX12_joins_207 : decode cX12_joins 207 = .ok (.iload 5, 2) := by decide +kernel
theorem dX12_joins_209 : decode cX12_joins 209 = .ok (.aload_n 0, 1) := by decide +kernel
theorem dX12_joins_210 : decode cX12_joins 210 = .ok (.iload_n 1, 1) := by decide +kernel
theorem dX12_joins_211 : decode cX12_joins 211 = .ok (.iconst 1, 1) := by decide +kernel
theorem dX12_joins_212 : decode cX12_joins 212 = .ok (.aload_n 0, 1) := by decide +kernel
theorem dX12_joins_213 : decode cX12_joins 213 = .ok (.getfield 58, 3) := by decide +kernel
theorem dX12_joins_216 : decode cX12_joins 216 = .ok (.iload 5, 2) := by decide +kernel
theorem dX12_joins_218 : decode cX12_joins 218 = .ok (.iaload, 1) := by decide +kernel
theorem dX12_joins_219 : decode cX12_joins 219 = .ok (.iload 8, 2) := by decide +kernel
theorem dX12_joins_221 : decode cX12_joins 221 = .ok (.invokevirtual 85, 3) := by decide +kernel
theorem dX12_joins_224 : decode cX12_joins 224 = .ok (.iastore, 1) := by decide +kernel
theorem dX12_joins_225 : decode cX12_joins 225 = .ok (.aload_n 0, 1) := by decide +kernel
theorem dX12_joins_226 : decode cX12_joins 226 = .ok (.getfield 61, 3) := by decide +kernel
theorem dX12_joins_229 : decode cX12_joins 229 = .ok (.iload 5, 2) := by decide +kernel
theorem dX12_joins_231 : decode cX12_joins 231 = .ok (.aload_n 0, 1) := by decide +kernel
theorem dX12_joins_232 : decode cX12_joins 232 = .ok (.iload_n 1, 1) := by decide +kernel
theorem dX12_joins_233 : decode cX12_joins 233 = .ok (.iconst 0, 1) := by decide +kernel
theorem dX12_joins_234 : decode cX12_joins 234 = .ok (.aload_n 0, 1) := by decide +kernel
theorem dX12_joins_235 : decode cX12_joins 235 = .ok (.getfield 55, 3) := by decide +kernel
theorem dX12_joins_238 : decode cX12_joins 238 = .ok (.iload 5, 2) := by decide +kernel
theorem dX12_joins_240 : decode cX12_joins 240 = .ok (.iaload, 1) := by decide +kernel
theorem dX12_joins_241 : decode cX12_joins 241 = .ok (.aload_n 0, 1) := by decide +kernel
theorem dX12_joins_242 : decode cX12_joins 242 = .ok (.getfield 55, 3) := by decide +kernel
theorem dX12_joins_245 : decode cX12_joins 245 = .ok (.iload 7, 2) := by decide +kernel
theorem dX12_joins_247 : decode cX12_joins 247 = .ok (.iaload, 1) := by decide +kernel
theorem dX12_joins_248 : decode cX12_joins 248 = .ok (.invokevirtual 85, 3) := by decide +kernel
theorem dX12_joins_251 : decode cX12_joins 251 = .ok (.iastore, 1) := by decide +kernel
theorem dX12_joins_252 : decode cX12_joins 252 = .ok (.iinc 5 1, 3) := by decide +kernel
theorem dX12_joins_255 : decode cX12_joins 255 = .ok (.goto (-176), 3) := by decide +kernel
theorem dX12_joins_258 : decode cX12_joins 258 = .ok (.iconst 0, 1) := by decide +kernel
theorem dX12_joins_259 : decode cX12_joins 259 = .ok (.istore 5, 2) := by decide +kernel
theorem dX12_joins_261 : decode cX12_joins 261 = .ok (.iload 5, 2) := by decide +kernel
theorem dX12_joins_263 : decode cX12_joins 263 = .ok (.iload_n 3, 1) := by decide +kernel
theorem dX12_joins_264 : decode cX12_joins 264 = .ok (.if_icmp .ge 37, 3) := by decide +kernel
theorem dX12_joins_267 : decode cX12_joins 267 = .ok (.aload_n 0, 1) := by decide +kernel
theorem dX12_joins_268 : decode cX12_joins 268 = .ok (.getfield 55, 3) := by decide +kernel
theorem dX12_joins_271 : decode cX12_joins 271 = .ok (.iload 5, 2) := by decide +kernel
theorem dX12_joins_273 : decode cX12_joins 273 = .ok (.aload_n 0, 1) := by decide +kernel
theorem dX12_joins_274 : decode cX12_joins 274 = .ok (.getfield 61, 3) := by decide +kernel
theorem dX12_joins_277 : decode cX12_joins 277 = .ok (.iload 5, 2) := by decide +kernel
theorem dX12_joins_279 : decode cX12_joins 279 = .ok (.iaload, 1) := by decide +kernel
theorem dX12_joins_280 : decode cX12_joins 280 = .ok (.iastore, 1) := by decide +kernel
theorem dX12_joins_281 : decode cX12_joins 281 = .ok (.aload_n 0, 1) := by decide +kernel
theorem dX12_joins_282 : decode cX12_joins 282 = .ok (.getfield 58, 3) := by decide +kernel
theorem dX12_joins_285 : decode cX12_joins 285 = .ok (.iload 5, 2) := by decide +kernel
theorem dX12_joins_287 : decode cX12_joins 287 = .ok (.aload_n 0, 1) := by decide +kernel
theorem dX12_joins_288 : decode cX12_joins 288 = .ok (.getfield 64, 3) := by decide +kernel
theorem dX12_joins_291 : decode cX12_joins 291 = .ok (.iload 5, 2) := by decide +kernel
theorem dX12_joins_293 : decode cX12_joins 293 = .ok (.iaload, 1) := by decide +kernel
theorem dX12_joins_294 : decode cX12_joins 294 = .ok (.iastore, 1) := by decide +kernel
theorem dX12_joins_295 : decode cX12_joins 295 = .ok (.iinc 5 1, 3) := by decide +kernel
theorem dX12_joins_298 : decode cX12_joins 298 = .ok (.goto (-37), 3) := by decide +kernel
theorem dX12_joins_301 : decode cX12_joins 301 = .ok (.iload 4, 2) := by decide +kernel
theorem dX12_joins_303 : decode cX12_joins 303 = .ok (.iconst 2, 1) := by decide +kernel
theorem dX12_joins_304 : decode cX12_joins 304 = .ok (.imul, 1) := by decide +kernel
theorem dX12_joins_305 : decode cX12_joins 305 = .ok (.istore 4, 2) := by decide +kernel
theorem dX12_joins_307 : decode cX12_joins 307 = .ok (.goto (-237), 3) := by decide +kernel
theorem dX12_joins_310 : decode cX12_joins 310 = .ok (.aload_n 0, 1) := by decide +kernel
theorem dX12_joins_311 : decode cX12_joins 311 = .ok (.iload_n 1, 1) := by decide +kernel
theorem dX12_joins_312 : decode cX12_joins 312 = .ok (.aload_n 0, 1) := by decide +kernel
theorem dX12_joins_313 : decode cX12_joins 313 = .ok (.getfield 67, 3) := by decide +kernel
theorem dX12_joins_316 : decode cX12_joins 316 = .ok (.iconst 0, 1) := by decide +kernel
theorem dX12_joins_317 : decode cX12_joins 317 = .ok (.iaload, 1) := by decide +kernel
theorem dX12_joins_318 : decode cX12_joins 318 = .ok (.invokevirtual 93, 3) := by decide +kernel
theorem dX12_joins_321 : decode cX12_joins 321 = .ok (.pop, 1) := by decide +kernel
theorem dX12_joins_322 : decode cX12_joins 322 = .ok (.iconst 1, 1) := by decide +kernel
theorem dX12_joins_323 : decode cX12_joins 323 = .ok (.istore 4, 2) := by decide +kernel
theorem dX12_joins_325 : decode cX12_joins 325 = .ok (.iload 4, 2) := by decide +kernel
theorem dX12_joins_327 : decode cX12_joins 327 = .ok (.iload_n 3, 1) := by decide +kernel
theorem dX12_joins_328 : decode cX12_joins 328 = .ok (.if_icmp .ge 37, 3) := by decide +kernel
theorem dX12_joins_331 : decode cX12_joins 331 = .ok (.aload_n 0, 1) := by decide +kernel
theorem dX12_joins_332 : decode cX12_joins 332 = .ok (.iload_n 1, 1) := by decide +kernel
theorem dX12_joins_333 : decode cX12_joins 333 = .ok (.aload_n 0, 1) := by decide +kernel
theorem dX12_joins_334 : decode cX12_joins 334 = .ok (.iload_n 1, 1) := by decide +kernel
theorem dX12_joins_335 : decode cX12_joins 335 = .ok (.iconst 2, 1) := by decide +kernel
theorem dX12_joins_336 : decode cX12_joins 336 = .ok (.aload_n 0, 1) := by decide +kernel
theorem dX12_joins_337 : decode cX12_joins 337 = .ok (.getfield 67, 3) := by decide +kernel
theorem dX12_joins_340 : decode cX12_joins 340 = .ok (.iload 4, 2) := by decide +kernel
theorem dX12_joins_342 : decode cX12_joins 342 = .ok (.iaload, 1) := by decide +kernel
theorem dX12_joins_343 : decode cX12_joins 343 = .ok (.aload_n 0, 1) := by decide +kernel
theorem dX12_joins_344 : decode cX12_joins 344 = .ok (.getfield 58, 3) := by decide +kernel
theorem dX12_joins_347 : decode cX12_joins 347 = .ok (.iload 4, 2) := by decide +kernel
theorem dX12_joins_349 : decode cX12_joins 349 = .ok (.iconst 1, 1) := by decide +kernel
theorem dX12_joins_350 : decode cX12_joins 350 = .ok (.isub, 1) := by decide +kernel
theorem dX12_joins_351 : decode cX12_joins 351 = .ok (.iaload, 1) := by decide +kernel
theorem dX12_joins_352 : decode cX12_joins 352 = .ok (.invokevirtual 85, 3) := by decide +kernel
theorem dX12_joins_355 : decode cX12_joins 355 = .ok (.invokevirtual 93, 3) := by decide +kernel
theorem dX12_joins_358 : decode cX12_joins 358 = .ok (.pop, 1) := by decide +kernel
theorem dX12_joins_359 : decode cX12_joins 359 = .ok (.iinc 4 1, 3) := by decide +kernel
theorem dX12_joins_362 : decode cX12_joins 362 = .ok (.goto (-37), 3) := by decide +kernel
theorem dX12_joins_365 : decode cX12_joins 365 = .ok (.aload_n 0, 1) := by decide +kernel
theorem dX12_joins_366 : decode cX12_joins 366 = .ok (.iload_n 1, 1) := by decide +kernel
theorem dX12_joins_367 : decode cX12_joins 367 = .ok (.aload_n 0, 1) := by decide +kernel
theorem dX12_joins_368 : decode cX12_joins 368 = .ok (.getfield 58, 3) := by decide +kernel
theorem dX12_joins_371 : decode cX12_joins 371 = .ok (.iload_n 3, 1) := by decide +kernel
theorem dX12_joins_372 : decode cX12_joins 372 = .ok (.iconst 1, 1) := by decide +kernel
theorem dX12_joins_373 : decode cX12_joins 373 = .ok (.isub, 1) := by decide +kernel
theorem dX12_joins_374 : decode cX12_joins 374 = .ok (.iaload, 1) := by decide +kernel
theorem dX12_joins_375 : decode cX12_joins 375 = .ok (.invokevirtual 93, 3) := by decide +kernel
theorem dX12_joins_378 : decode cX12_joins 378 = .ok (.pop, 1) := by decide +kernel
theorem dX12_joins_379 : decode cX12_joins 379 = .ok (.return_, 1) := by decide +kernel
set_option maxRecDepth 20000 in
theorem ggX12_addsInputs_X12_adds : GoodIn wsX12_addsInputs wsX12_adds := goodIn_r _ [5, 6, 7, 8, 9, 10, 11, 12, 13, 14, 15, 16, 17, 18, 19, 20, 21, 22, 23, 24, 25, 26, 27, 28, 29, 30, 31, 32, 33, 34] (by decide +kernel) (by decide +kernel)
set_option maxRecDepth 20000 in
theorem gX12_addsInputs_X12_adds : GoodIn wsX12_addsInputs (wsV RX12 85 RX12 yX12_adds wsX12_adds) := goodIn_app (goodIn_of _ (by decide +kernel)) ggX12_addsInputs_X12_adds
theorem dX12_addsInputs_0 : decode cX12_addsInputs 0 = .ok (.iconst 0, 1) := by decide +kernel
theorem dX12_addsInputs_1 : decode cX12_addsInputs 1 = .ok (.istore_n 3, 1) := by decide +kernel
theorem dX12_addsInputs_2 : decode cX12_addsInputs 2 = .ok (.iload_n 3, 1) := by decide +kernel
theorem dX12_addsInputs_3 : decode cX12_addsInputs 3 = .ok (.iconst 2, 1) := by decide +kernel
theorem dX12_addsInputs_4 : decode cX12_addsInputs 4 = .ok (.iload_n 2, 1) := by decide +kernel
theorem dX12_addsInputs_5 : decode cX12_addsInputs 5 = .ok (.imul, 1) := by decide +kernel
theorem dX12_addsInputs_6 : decode cX12_addsInputs 6 = .ok (.if_icmp .ge 18, 3) := by decide +kernel
theorem dX12_addsInputs_9 : decode cX12_addsInputs 9 = .ok (.aload_n 0, 1) := by decide +kernel
theorem dX12_addsInputs_10 : decode cX12_addsInputs 10 = .ok (.iload_n 1, 1) := by decide +kernel
theorem dX12_addsInputs_11 : decode cX12_addsInputs 11 = .ok (.iconst 4, 1) := by decide +kernel
theorem dX12_addsInputs_12 : decode cX12_addsInputs 12 = .ok (.iconst (-1), 1) := by decide +kernel
theorem dX12_addsInputs_13 : decode cX12_addsInputs 13 = .ok (.iconst (-1), 1) := by decide +kernel
theorem dX12_addsInputs_14 : decode cX12_addsInputs 14 = .ok (.invokevirtual 85, 3) := by decide +kernel
theorem dX12_addsInputs_17 : decode cX12_addsInputs 17 = .ok (.pop, 1) := by decide +kernel
theorem dX12_addsInputs_18 : decode cX12_addsInputs 18 = .ok (.iinc 3 1, 3) := by decide +kernel
theorem dX12_addsInputs_21 : decode cX12_addsInputs 21 = .ok (.goto (-19), 3) := by decide +kernel
theorem dX12_addsInputs_24 : decode cX12_addsInputs 24 = .ok (.return_, 1) := by decide +kernel
set_option maxRecDepth 20000 in
theorem ggX12_adder_X12_isNet : GoodIn wsX12_adder wsX12_isNet := goodIn_r _ [6, 7, 8, 5, 9] (by decide +kernel) (by decide +kernel)
set_option maxRecDepth 20000 in
theorem gX12_adder_X12_isNet : GoodIn wsX12_adder (va_wsS RX12 81 yX12_isNet wsX12_isNet) := goodIn_app (goodIn_of _ (by decide +kernel)) ggX12_adder_X12_isNet
set_option maxRecDepth 20000 in
theorem ggX12_adder_X12_isIn : GoodIn wsX12_adder wsX12_isIn := goodIn_r _ [9] (by decide +kernel) (by decide +kernel)
set_option maxRecDepth 20000 in
theorem gX12_adder_X12_isIn : GoodIn wsX12_adder (va_wsS RX12 77 yX12_isIn wsX12_isIn) := goodIn_app (goodIn_of _ (by decide +kernel)) ggX12_adder_X12_isIn
set_option maxRecDepth 20000 in
theorem ggX12_adder_X12_addsInputs : GoodIn wsX12_adder wsX12_addsInputs := goodIn_r _ [13, 14, 15, 16, 5, 17, 1, 18, 19, 20, 21, 22, 51, 52, 53, 54, 55, 56, 57, 58, 59, 60, 61, 62, 63, 64, 65, 66, 67, 68, 69, 70, 71, 72, 73] (by decide +kernel) (by decide +kernel)
set_option maxRecDepth 20000 in
theorem gX12_adder_X12_addsInputs : GoodIn wsX12_adder (wsV RX12 107 RX12 yX12_addsInputs wsX12_addsInputs) := goodIn_app (goodIn_of _ (by decide +kernel)) ggX12_adder_X12_addsInputs
set_option maxRecDepth 20000 in
theorem ggX12_adder_X12_ripples : GoodIn wsX12_adder wsX12_ripples := goodIn_r _ [26, 27, 28, 29, 30, 31, 5, 32, 14, 15, 16, 17, 1, 18, 19, 20, 21, 22, 33, 34, 35, 36, 37, 38, 39, 40, 41, 42, 51, 52, 53, 54, 55, 56, 57, 58, 59, 60, 61, 62, 63, 64, 65, 66, 67, 68, 69, 70, 71, 72, 73] (by decide +kernel) (by decide +kernel)
set_option maxRecDepth 20000 in
theorem gX12_adder_X12_ripples : GoodIn wsX12_adder (wsV RX12 111 RX12 yX12_ripples wsX12_ripples) := goodIn_app (goodIn_of _ (by decide +kernel)) ggX12_adder_X12_ripples
set_option maxRecDepth 20000 in
theorem ggX12_adder_X12_joins : GoodIn wsX12_adder wsX12_joins := goodIn_r _ [46, 47, 48, 27, 49, 50, 14, 15, 16, 5, 17, 1, 18, 19, 20, 21, 22, 37, 38, 39, 40, 41, 42, 51, 52, 53, 54, 55, 56, 57, 58, 59, 60, 61, 62, 63, 64, 65, 66, 67, 68, 69, 70, 71, 72, 73] (by decide +kernel) (by decide +kernel)
set_option maxRecDepth 20000 in
theorem gX12_adder_X12_joins : GoodIn wsX12_adder (wsV RX12 114 RX12 yX12_joins wsX12_joins) := goodIn_app (goodIn_of _ (by decide +kernel)) ggX12_adder_X12_joins
theorem dX12_adder_0 : decode cX12_adder 0 = .ok (.aload_n 0, 1) := by decide +kernel
theorem dX12_adder_1 : decode cX12_adder 1 = .ok (.iload_n 1, 1) := by decide +kernel
theorem dX12_adder_2 : decode cX12_adder 2 = .ok (.invokestatic 81, 3) := by decide +kernel
theorem dX12_adder_5 : decode cX12_adder 5 = .ok (.ifCond .ne 7, 3) := by decide +kernel
theorem dX12_adder_8 : decode cX12_adder 8 = .ok (.iconst 1, 1) := by decide +kernel
theorem dX12_adder_9 : decode cX12_adder 9 = .ok (.goto 40, 3) := by decide +kernel
theorem dX12_adder_12 : decode cX12_adder 12 = .ok (.iload_n 2, 1) := by decide +kernel
theorem dX12_adder_13 : decode cX12_adder 13 = .ok (.iconst 0, 1) := by decide +kernel
theorem dX12_adder_14 : decode cX12_adder 14 = .ok (.iconst 2, 1) := by decide +kernel
theorem dX12_adder_15 : decode cX12_adder 15 = .ok (.invokestatic 77, 3) := by decide +kernel
theorem dX12_adder_18 : decode cX12_adder 18 = .ok (.ifCond .eq 13, 3) := by decide +kernel
theorem dX12_adder_21 : decode cX12_adder 21 = .ok (.iload_n 3, 1) := by decide +kernel
theorem dX12_adder_22 : decode cX12_adder 22 = .ok (.iconst 1, 1) := by decide +kernel
theorem dX12_adder_23 : decode cX12_adder 23 = .ok (.bipush 6, 2) := by decide +kernel
theorem dX12_adder_25 : decode cX12_adder 25 = .ok (.invokestatic 77, 3) := by decide +kernel
theorem dX12_adder_28 : decode cX12_adder 28 = .ok (.ifCond .ne 7, 3) := by decide +kernel
theorem dX12_adder_31 : decode cX12_adder 31 = .ok (.iconst 2, 1) := by decide +kernel
theorem dX12_adder_32 : decode cX12_adder 32 = .ok (.goto 17, 3) := by decide +kernel
theorem dX12_adder_35 : decode cX12_adder 35 = .ok (.aload_n 0, 1) := by decide +kernel
theorem dX12_adder_36 : decode cX12_adder 36 = .ok (.getfield 22, 3) := by decide +kernel
theorem dX12_adder_39 : decode cX12_adder 39 = .ok (.iload_n 1, 1) := by decide +kernel
theorem dX12_adder_40 : decode cX12_adder 40 = .ok (.iaload, 1) := by decide +kernel
theorem dX12_adder_41 : decode cX12_adder 41 = .ok (.ifCond .le 7, 3) := by decide +kernel
theorem dX12_adder_44 : decode cX12_adder 44 = .ok (.iconst 3, 1) := by decide +kernel
theorem dX12_adder_45 : decode cX12_adder 45 = .ok (.goto 4, 3) := by decide +kernel
theorem dX12_adder_48 : decode cX12_adder 48 = .ok (.iconst 0, 1) := by decide +kernel
theorem dX12_adder_49 : decode cX12_adder 49 = .ok (.putfield 73, 3) := by decide +kernel
theorem dX12_adder_52 : decode cX12_adder 52 = .ok (.aload_n 0, 1) := by decide +kernel
theorem dX12_adder_53 : decode cX12_adder 53 = .ok (.getfield 73, 3) := by decide +kernel
theorem dX12_adder_56 : decode cX12_adder 56 = .ok (.ifCond .le 5, 3) := by decide +kernel
theorem dX12_adder_59 : decode cX12_adder 59 = .ok (.iconst 0, 1) := by decide +kernel
theorem dX12_adder_60 : decode cX12_adder 60 = .ok (.ireturn, 1) := by decide +kernel
theorem dX12_adder_61 : decode cX12_adder 61 = .ok (.aload_n 0, 1) := by decide +kernel
theorem dX12_adder_62 : decode cX12_adder 62 = .ok (.iload_n 1, 1) := by decide +kernel
theorem dX12_adder_63 : decode cX12_adder 63 = .ok (.iload_n 3, 1) := by decide +kernel
theorem dX12_adder_64 : decode cX12_adder 64 = .ok (.invokevirtual 107, 3) := by decide +kernel
theorem dX12_adder_67 : decode cX12_adder 67 = .ok (.iload_n 2, 1) := by decide +kernel
theorem dX12_adder_68 : decode cX12_adder 68 = .ok (.ifCond .ne 12, 3) := by decide +kernel
theorem dX12_adder_71 : decode cX12_adder 71 = .ok (.aload_n 0, 1) := by decide +kernel
theorem dX12_adder_72 : decode cX12_adder 72 = .ok (.iload_n 1, 1) := by decide +kernel
theorem dX12_adder_73 : decode cX12_adder 73 = .ok (.iload_n 3, 1) := by decide +kernel
theorem dX12_adder_74 : decode cX12_adder 74 = .ok (.invokevirtual 111, 3) := by decide +kernel
theorem dX12_adder_77 : decode cX12_adder 77 = .ok (.goto 10, 3) := by decide +kernel
theorem dX12_adder_80 : decode cX12_adder 80 = .ok (.aload_n 0, 1) := by decide +kernel
theorem dX12_adder_81 : decode cX12_adder 81 = .ok (.iload_n 1, 1) := by decide +kernel
theorem dX12_adder_82 : decode cX12_adder 82 = .ok (.iload_n 2, 1) := by decide +kernel
theorem dX12_adder_83 : decode cX12_adder 83 = .ok (.iload_n 3, 1) := by decide +kernel
theorem dX12_adder_84 : decode cX12_adder 84 = .ok (.invokevirtual 114, 3) := by decide +kernel
theorem dX12_adder_87 : decode cX12_adder 87 = .ok (.aload_n 0, 1) := by decide +kernel
theorem dX12_adder_88 : decode cX12_adder 88 = .ok (.getfield 22, 3) := by decide +kernel
theorem dX12_adder_91 : decode cX12_adder 91 = .ok (.iload_n 1, 1) := by decide +kernel
theorem dX12_adder_92 : decode cX12_adder 92 = .ok (.iaload, 1) := by decide +kernel
theorem dX12_adder_93 : decode cX12_adder 93 = .ok (.ireturn, 1) := by decide +kernel
set_option maxRecDepth 20000 in
theorem ggX12_multiplier_X12_isNet : GoodIn wsX12_multiplier wsX12_isNet := goodIn_r _ [9, 10, 11, 8, 12] (by decide +kernel) (by decide +kernel)
set_option maxRecDepth 20000 in
theorem gX12_multiplier_X12_isNet : GoodIn wsX12_multiplier (va_wsS RX12 81 yX12_isNet wsX12_isNet) := goodIn_app (goodIn_of _ (by decide +kernel)) ggX12_multiplier_X12_isNet
set_option maxRecDepth 20000 in
theorem ggX12_multiplier_X12_isIn : GoodIn wsX12_multiplier wsX12_isIn := goodIn_r _ [12] (by decide +kernel) (by decide +kernel)
set_option maxRecDepth 20000 in
theorem gX12_multiplier_X12_isIn : GoodIn wsX12_multiplier (va_wsS RX12 77 yX12_isIn wsX12_isIn) := goodIn_app (goodIn_of _ (by decide +kernel)) ggX12_multiplier_X12_isIn
set_option maxRecDepth 20000 in
theorem ggX12_multiplier_X12_addsInputs : GoodIn wsX12_multiplier wsX12_addsInputs := goodIn_r _ [16, 17, 18, 19, 8, 20, 1, 21, 22, 23, 24, 25, 40, 41, 42, 43, 44, 45, 46, 47, 48, 49, 50, 51, 52, 53, 54, 55, 56, 57, 58, 59, 60, 61, 62] (by decide +kernel) (by decide +kernel)
set_option maxRecDepth 20000 in
theorem gX12_multiplier_X12_addsInputs : GoodIn wsX12_multiplier (wsV RX12 107 RX12 yX12_addsInputs wsX12_addsInputs) := goodIn_app (goodIn_of _ (by decide +kernel)) ggX12_multiplier_X12_addsInputs
set_option maxRecDepth 20000 in
theorem ggX12_multiplier_X12_adds : GoodIn wsX12_multiplier wsX12_adds := goodIn_r _ [20, 1, 21, 22, 23, 24, 25, 40, 41, 42, 43, 44, 45, 46, 47, 48, 49, 50, 51, 52, 53, 54, 55, 56, 57, 58, 59, 60, 61, 62] (by decide +kernel) (by decide +kernel)
set_option maxRecDepth 20000 in
theorem gX12_multiplier_X12_adds : GoodIn wsX12_multiplier (wsV RX12 85 RX12 yX12_adds wsX12_adds) := goodIn_app (goodIn_of _ (by decide +kernel)) ggX12_multiplier_X12_adds
set_option maxRecDepth 20000 in
theorem ggX12_multiplier_X12_addsOut : GoodIn wsX12_multiplier wsX12_addsOut := goodIn_r _ [29, 30, 31, 40, 41, 42, 43, 44, 45, 46, 47, 48, 49, 50, 51, 52, 53, 54, 55, 56, 57, 58, 59, 60, 61, 62] (by decide +kernel) (by decide +kernel)
set_option maxRecDepth 20000 in
theorem gX12_multiplier_X12_addsOut : GoodIn wsX12_multiplier (wsV RX12 93 RX12 yX12_addsOut wsX12_addsOut) := goodIn_app (goodIn_of _ (by decide +kernel)) ggX12_multiplier_X12_addsOut
set_option maxRecDepth 20000 in
theorem ggX12_multiplier_X12_half : GoodIn wsX12_multiplier wsX12_half := goodIn_r _ [35, 5, 17, 18, 19, 8, 20, 1, 21, 22, 23, 24, 25, 40, 41, 42, 43, 44, 45, 46, 47, 48, 49, 50, 51, 52, 53, 54, 55, 56, 57, 58, 59, 60, 61, 62] (by decide +kernel) (by decide +kernel)
set_option maxRecDepth 20000 in
theorem gX12_multiplier_X12_half : GoodIn wsX12_multiplier (wsV RX12 100 RX12 yX12_half wsX12_half) := goodIn_app (goodIn_of _ (by decide +kernel)) ggX12_multiplier_X12_half
set_option maxRecDepth 20000 in
theorem ggX12_multiplier_X12_full : GoodIn wsX12_multiplier wsX12_full := goodIn_r _ [39, 5, 17, 18, 19, 8, 20, 1, 21, 22, 23, 24, 25, 40, 41, 42, 43, 44, 45, 46, 47, 48, 49, 50, 51, 52, 53, 54, 55, 56, 57, 58, 59, 60, 61, 62] (by decide +kernel) (by decide +kernel)
set_option maxRecDepth 20000 in
theorem gX12_multiplier_X12_full : GoodIn wsX12_multiplier (wsV RX12 104 RX12 yX12_full wsX12_full) := goodIn_app (goodIn_of _ (by decide +kernel)) ggX12_multiplier_X12_full
theorem dX12_multiplier_0 : decode cX12_multiplier 0 = .ok (.aload_n 0, 1) := by decide +kernel
theorem dX12_multiplier_1 : decode cX12_multiplier 1 = .ok (.iload_n 1, 1) := by decide +kernel
theorem dX12_multiplier_2 : decode cX12_multiplier 2 = .ok (.invokestatic 81, 3) := by decide +kernel
theorem dX12_multiplier_5 : decode cX12_multiplier 5 = .ok (.ifCond .ne 7, 3) := by decide +kernel
theorem dX12_multiplier_8 : decode cX12_multiplier 8 = .ok (.iconst 1, 1) := by decide +kernel
theorem dX12_multiplier_9 : decode cX12_multiplier 9 = .ok (.goto 30, 3) := by decide +kernel
theorem dX12_multiplier_12 : decode cX12_multiplier 12 = .ok (.iload_n 2, 1) := by decide +kernel
theorem dX12_multiplier_13 : decode cX12_multiplier 13 = .ok (.iconst 1, 1) := by decide +kernel
theorem dX12_multiplier_14 : decode cX12_multiplier 14 = .ok (.iconst 4, 1) := by decide +kernel
theorem dX12_multiplier_15 : decode cX12_multiplier 15 = .ok (.invokestatic 77, 3) := by decide +kernel
theorem dX12_multiplier_18 : decode cX12_multiplier 18 = .ok (.ifCond .ne 7, 3) := by decide +kernel
theorem dX12_multiplier_21 : decode cX12_multiplier 21 = .ok (.iconst 2, 1) := by decide +kernel
theorem dX12_multiplier_22 : decode cX12_multiplier 22 = .ok (.goto 17, 3) := by decide +kernel
theorem dX12_multiplier_25 : decode cX12_multiplier 25 = .ok (.aload_n 0, 1) := by decide +kernel
theorem dX12_multiplier_26 : decode cX12_multiplier 26 = .ok (.getfield 22, 3) := by decide +kernel
theorem dX12_multiplier_29 : decode cX12_multiplier 29 = .ok (.iload_n 1, 1) := by decide +kernel
theorem dX12_multiplier_30 : decode cX12_multiplier 30 = .ok (.iaload, 1) := by decide +kernel
theorem dX12_multiplier_31 : decode cX12_multiplier 31 = .ok (.ifCond .le 7, 3) := by decide +kernel
theorem dX12_multiplier_34 : decode cX12_multiplier 34 = .ok (.iconst 3, 1) := by decide +kernel
theorem dX12_multiplier_35 : decode cX12_multiplier 35 = .ok (.goto 4, 3) := by decide +kernel
theorem dX12_multiplier_38 : decode cX12_multiplier 38 = .ok (.iconst 0, 1) := by decide +kernel
theorem dX12_multiplier_39 : decode cX12_multiplier 39 = .ok (.putfield 73, 3) := by decide +kernel
theorem dX12_multiplier_42 : decode cX12_multiplier 42 = .ok (.aload_n 0, 1) := by decide +kernel
theorem dX12_multiplier_43 : decode cX12_multiplier 43 = .ok (.getfield 73, 3) := by decide +kernel
theorem dX12_multiplier_46 : decode cX12_multiplier 46 = .ok (.ifCond .le 5, 3) := by decide +kernel
theorem dX12_multiplier_49 : decode cX12_multiplier 49 = .ok (.iconst 0, 1) := by decide +kernel
theorem dX12_multiplier_50 : decode cX12_multiplier 50 = .ok (.ireturn, 1) := by decide +kernel
theorem dX12_multiplier_51 : decode cX12_multiplier 51 = .ok (.aload_n 0, 1) := by decide +kernel
theorem dX12_multiplier_52 : decode cX12_multiplier 52 = .ok (.iload_n 1, 1) := by decide +kernel
theorem dX12_multiplier_53 : decode cX12_multiplier 53 = .ok (.iload_n 2, 1) := by decide +kernel
theorem dX12_multiplier_54 : decode cX12_multiplier 54 = .ok (.invokevirtual 107, 3) := by decide +kernel
theorem dX12_multiplier_57 : decode cX12_multiplier 57 = .ok (.iconst 0, 1) := by decide +kernel
theorem dX12_multiplier_58 : decode cX12_multiplier 58 = .ok (.istore_n 3, 1) := by decide +kernel
theorem dX12_multiplier_59 : decode cX12_multiplier 59 = .ok (.iload_n 3, 1) := by decide +kernel
theorem dX12_multiplier_60 : decode cX12_multiplier 60 = .ok (.iload_n 2, 1) := by decide +kernel
theorem dX12_multiplier_61 : decode cX12_multiplier 61 = .ok (.if_icmp .ge 46, 3) := by decide +kernel
theorem dX12_multiplier_64 : decode cX12_multiplier 64 = .ok (.iconst 0, 1) := by decide +kernel
theorem dX12_multiplier_65 : decode cX12_multiplier 65 = .ok (.istore 4, 2) := by decide +kernel
theorem dX12_multiplier_67 : decode cX12_multiplier 67 = .ok (.iload 4, 2) := by decide +kernel
theorem dX12_multiplier_69 : decode cX12_multiplier 69 = .ok (.iload_n 2, 1) := by decide +kernel
theorem dX12_multiplier_70 : decode cX12_multiplier 70 = .ok (.if_icmp .ge 31, 3) := by decide +kernel
theorem dX12_multiplier_73 : decode cX12_multiplier 73 = .ok (.aload_n 0, 1) := by decide +kernel
theorem dX12_multiplier_74 : decode cX12_multiplier 74 = .ok (.getfield 70, 3) := by decide +kernel
theorem dX12_multiplier_77 : decode cX12_multiplier 77 = .ok (.iconst 4, 1) := by decide +kernel
theorem dX12_multiplier_78 : decode cX12_multiplier 78 = .ok (.iload_n 3, 1) := by decide +kernel
theorem dX12_multiplier_79 : decode cX12_multiplier 79 = .ok (.imul, 1) := by decide +kernel
theorem dX12_multiplier_80 : decode cX12_multiplier 80 = .ok (.iload 4, 2) := by decide +kernel
theorem dX12_multiplier_82 : decode cX12_multiplier 82 = .ok (.iadd, 1) := by decide +kernel
theorem dX12_multiplier_83 : decode cX12_multiplier 83 = .ok (.aload_n 0, 1) := by decide +kernel
theorem dX12_multiplier_84 : decode cX12_multiplier 84 = .ok (.iload_n 1, 1) := by decide +kernel
theorem dX12_multiplier_85 : decode cX12_multiplier 85 = .ok (.iconst 0, 1) := by decide +kernel
theorem dX12_multiplier_86 : decode cX12_multiplier 86 = .ok (.iload 4, 2) := by decide +kernel
theorem dX12_multiplier_88 : decode cX12_multiplier 88 = .ok (.iload_n 2, 1) := by decide +kernel
theorem dX12_multiplier_89 : decode cX12_multiplier 89 = .ok (.iload_n 3, 1) := by decide +kernel
theorem dX12_multiplier_90 : decode cX12_multiplier 90 = .ok (.iadd, 1) := by decide +kernel
theorem dX12_multiplier_91 : decode cX12_multiplier 91 = .ok (.invokevirtual 85, 3) := by decide +kernel
theorem dX12_multiplier_94 : decode cX12_multiplier 94 = .ok (.iastore, 1) := by decide +kernel
theorem dX12_multiplier_95 : decode cX12_multiplier 95 = .ok (.iinc 4 1, 3) := by decide +kernel
theorem dX12_multiplier_98 : decode cX12_multiplier 98 = .ok (.goto (-31), 3) := by decide +kernel
theorem dX12_multiplier_101 : decode cX12_multiplier 101 = .ok (.iinc 3 1, 3) := by decide +kernel
theorem dX12_multiplier_104 : decode cX12_multiplier 104 = .ok (.goto (-45), 3) := by decide +kernel
theorem dX12_multiplier_107 : decode cX12_multiplier 107 = .ok (.iload_n 2, 1) := by decide +kernel
theorem dX12_multiplier_108 : decode cX12_multiplier 108 = .ok (.istore_n 3, 1) := by decide +kernel
theorem dX12_multiplier_109 : decode cX12_multiplier 109 = .ok (.iconst 0, 1) := by decide +kernel
theorem dX12_multiplier_110 : decode cX12_multiplier 110 = .ok (.istore 4, 2) := by decide +kernel
theorem dX12_multiplier_112 : decode cX12_multiplier 112 = .ok (.iload 4, 2) := by decide +kernel
theorem dX12_multiplier_114 : decode cX12_multiplier 114 = .ok (.iload_n 2, 1) := by decide +kernel
theorem dX12_multiplier_115 : decode cX12_multiplier 115 = .ok (.if_icmp .ge 23, 3) := by decide +kernel
theorem dX12_multiplier_118 : decode cX12_multiplier 118 = .ok (.aload_n 0, 1) := by decide +kernel
theorem dX12_multiplier_119 : decode cX12_multiplier 119 = .ok (.getfield 67, 3) := by decide +kernel
theorem dX12_multiplier_122 : decode cX12_multiplier 122 = .ok (.iload 4, 2) := by decide +kernel
theorem dX12_multiplier_124 : decode cX12_multiplier 124 = .ok (.aload_n 0, 1) := by decide +kernel
theorem dX12_multiplier_125 : decode cX12_multiplier 125 = .ok (.getfield 70, 3) := by decide +kernel
theorem dX12_multiplier_128 : decode cX12_multiplier 128 = .ok (.iload 4, 2) := by decide +kernel
theorem dX12_multiplier_130 : decode cX12_multiplier 130 = .ok (.iaload, 1) := by decide +kernel
theorem dX12_multiplier_131 : decode cX12_multiplier 131 = .ok (.iastore, 1) := by decide +kernel
theorem dX12_multiplier_132 : decode cX12_multiplier 132 = .ok (.iinc 4 1, 3) := by decide +kernel
theorem dX12_multiplier_135 : decode cX12_multiplier 135 = .ok (.goto (-23), 3) := by decide +kernel
theorem dX12_multiplier_138 : decode cX12_multiplier 138 = .ok (.iconst 1, 1) := by decide +kernel
theorem dX12_multiplier_139 : decode cX12_multiplier 139 = .ok (.istore 4, 2) := by decide +kernel
theorem dX12_multiplier_141 : decode cX12_multiplier 141 = .ok (.iload 4, 2) := by decide +kernel
theorem dX12_multiplier_143 : decode cX12_multiplier 143 = .ok (.iload_n 2, 1) := by decide +kernel
theorem dX12_multiplier_144 : decode cX12_multiplier 144 = .ok (.if_icmp .ge 164, 3) := by decide +kernel
theorem dX12_multiplier_147 : decode cX12_multiplier 147 = .ok (.aload_n 0, 1) := by decide +kernel
theorem dX12_multiplier_148 : decode cX12_multiplier 148 = .ok (.iload_n 1, 1) := by decide +kernel
theorem dX12_multiplier_149 : decode cX12_multiplier 149 = .ok (.aload_n 0, 1) := by decide +kernel
theorem dX12_multiplier_150 : decode cX12_multiplier 150 = .ok (.getfield 67, 3) := by decide +kernel
theorem dX12_multiplier_153 : decode cX12_multiplier 153 = .ok (.iconst 0, 1) := by decide +kernel
theorem dX12_multiplier_154 : decode cX12_multiplier 154 = .ok (.iaload, 1) := by decide +kernel
theorem dX12_multiplier_155 : decode cX12_multiplier 155 = .ok (.invokevirtual 93, 3) := by decide +kernel
theorem dX12_multiplier_158 : decode cX12_multiplier 158 = .ok (.pop, 1) := by decide +kernel
theorem dX12_multiplier_159 : decode cX12_multiplier 159 = .ok (.iinc 3 (-1), 3) := by decide +kernel
theorem dX12_multiplier_162 : decode cX12_multiplier 162 = .ok (.iconst 0, 1) := by decide +kernel
theorem dX12_multiplier_163 : decode cX12_multiplier 163 = .ok (.istore 5, 2) := by decide +kernel
theorem dX12_multiplier_165 : decode cX12_multiplier 165 = .ok (.iload 5, 2) := by decide +kernel
theorem dX12_multiplier_167 : decode cX12_multiplier 167 = .ok (.iload_n 3, 1) := by decide +kernel
theorem dX12_multiplier_168 : decode cX12_multiplier 168 = .ok (.if_icmp .ge 25, 3) := by decide +kernel
theorem dX12_multiplier_171 : decode cX12_multiplier 171 = .ok (.aload_n 0, 1) := by decide +kernel
theorem dX12_multiplier_172 : decode cX12_multiplier 172 = .ok (.getfield 67, 3) := by decide +kernel
theorem dX12_multiplier_175 : decode cX12_multiplier 175 = .ok (.iload 5, 2) := by decide +kernel
theorem dX12_multiplier_177 : decode cX12_multiplier 177 = .ok (.aload_n 0, 1) := by decide +kernel
theorem dX12_multiplier_178 : decode cX12_multiplier 178 = .ok (.getfield 67, 3) := by decide +kernel
theorem dX12_multiplier_181 : decode cX12_multiplier 181 = .ok (.iload 5, 2) := by decide +kernel
theorem dX12_multiplier_183 : decode cX12_multiplier 183 = .ok (.iconst 1, 1) := by decide +kernel
theorem dX12_multiplier_184 : decode cX12_multiplier 184 = .ok (.iadd, 1) := by decide +kernel
theorem dX12_multiplier_185 : decode cX12_multiplier 185 = .ok (.iaload, 1) := by decide +kernel
theorem dX12_multiplier_186 : decode cX12_multiplier 186 = .ok (.iastore, 1) := by decide +kernel
theorem dX12_multiplier_187 : decode cX12_multiplier 187 = .ok (.iinc 5 1, 3) := by decide +kernel
theorem dX12_multiplier_190 : decode cX12_multiplier 190 = .ok (.goto (-25), 3) := by decide +kernel
theorem dX12_multiplier_193 : decode cX12_multiplier 193 = .ok (.iconst 0, 1) := by decide +kernel
theorem dX12_multiplier_194 : decode cX12_multiplier 194 = .ok (.istore 5, 2) := by decide +kernel
theorem dX12_multiplier_196 : decode cX12_multiplier 196 = .ok (.iload 5, 2) := by decide +kernel
theorem dX12_multiplier_198 : decode cX12_multiplier 198 = .ok (.iload_n 2, 1) := by decide +kernel
theorem dX12_multiplier_199 : decode cX12_multiplier 199 = .ok (.if_icmp .ge 89, 3) := by decide +kernel
theorem dX12_multiplier_202 : decode cX12_multiplier 202 = .ok (.aload_n 0, 1) := by decide +kernel
theorem dX12_multiplier_203 : decode cX12_multiplier 203 = .ok (.getfield 70, 3) := by decide +kernel
theorem dX12_multiplier_206 : decode cX12_multiplier 206 = .ok (.iconst 4, 1) := by decide +kernel
theorem dX12_multiplier_207 : decode cX12_multiplier 207 = .ok (.iload 4, 2) := by decide +kernel
theorem dX12_multiplier_209 : decode cX12_multiplier 209 = .ok (.imul, 1) := by decide +kernel
theorem dX12_multiplier_210 : decode cX12_multiplier 210 = .ok (.iload 5, 2) := by decide +kernel
theorem dX12_multiplier_212 : decode cX12_multiplier 212 = .ok (.iadd, 1) := by decide +kernel
theorem dX12_multiplier_213 : decode cX12_multiplier 213 = .ok (.iaload, 1) := by decide +kernel
theorem dX12_multiplier_214 : decode cX12_multiplier 214 = .ok (.istore 6, 2) := by decide +kernel
theorem dX12_multiplier_216 : decode cX12_multiplier 216 = .ok (.aload_n 0, 1) := by decide +kernel
theorem dX12_multiplier_217 : decode cX12_multiplier 217 = .ok (.getfield 67, 3) := by decide +kernel
theorem dX12_multiplier_220 : decode cX12_multiplier 220 = .ok (.iload 5, 2) := by decide +kernel
theorem dX12_multiplier_222 : decode cX12_multiplier 222 = .ok (.iload 5, 2) := by decide +kernel
theorem dX12_multiplier_224 : decode cX12_multiplier 224 = .ok (.ifCond .ne 19, 3) := by decide +kernel
theorem dX12_multiplier_227 : decode cX12_multiplier 227 = .ok (.aload_n 0, 1) := by decide +kernel
theorem dX12_multiplier_228 : decode cX12_multiplier 228 = .ok (.iload_n 1, 1) := by decide +kernel
theorem dX12_multiplier_229 : decode cX12_multiplier 229 = .ok (.aload_n 0, 1) := by decide +kernel
theorem dX12_multiplier_230 : decode cX12_multiplier 230 = .ok (.getfield 67, 3) := by decide +kernel
theorem dX12_multiplier_233 : decode cX12_multiplier 233 = .ok (.iconst 0, 1) := by decide +kernel
theorem dX12_multiplier_234 : decode cX12_multiplier 234 = .ok (.iaload, 1) := by decide +kernel
theorem dX12_multiplier_235 : decode cX12_multiplier 235 = .ok (.iload 6, 2) := by decide +kernel
theorem dX12_multiplier_237 : decode cX12_multiplier 237 = .ok (.invokevirtual 100, 3) := by decide +kernel
theorem dX12_multiplier_240 : decode cX12_multiplier 240 = .ok (.goto 41, 3) := by decide +kernel
theorem dX12_multiplier_243 : decode cX12_multiplier 243 = .ok (.iload 5, 2) := by decide +kernel
theorem dX12_multiplier_245 : decode cX12_multiplier 245 = .ok (.iload_n 3, 1) := by decide +kernel
theorem dX12_multiplier_246 : decode cX12_multiplier 246 = .ok (.if_icmp .ge 24, 3) := by decide +kernel
theorem dX12_multiplier_249 : decode cX12_multiplier 249 = .ok (.aload_n 0, 1) := by decide +kernel
theorem dX12_multiplier_250 : decode cX12_multiplier 250 = .ok (.iload_n 1, 1) := by decide +kernel
theorem dX12_multiplier_251 : decode cX12_multiplier 251 = .ok (.aload_n 0, 1) := by decide +kernel
theorem dX12_multiplier_252 : decode cX12_multiplier 252 = .ok (.getfield 67, 3) := by decide +kernel
theorem dX12_multiplier_255 : decode cX12_multiplier 255 = .ok (.iload 5, 2) := by decide +kernel
theorem dX12_multiplier_257 : decode cX12_multiplier 257 = .ok (.iaload, 1) := by decide +kernel
theorem dX12_multiplier_258 : decode cX12_multiplier 258 = .ok (.iload 6, 2) := by decide +kernel
theorem dX12_multiplier_260 : decode cX12_multiplier 260 = .ok (.aload_n 0, 1) := by decide +kernel
theorem dX12_multiplier_261 : decode cX12_multiplier 261 = .ok (.getfield 97, 3) := by decide +kernel
theorem dX12_multiplier_264 : decode cX12_multiplier 264 = .ok (.invokevirtual 104, 3) := by decide +kernel
theorem dX12_multiplier_267 : decode cX12_multiplier 267 = .ok (.goto 14, 3) := by decide +kernel
theorem dX12_multiplier_270 : decode cX12_multiplier 270 = .ok (.aload_n 0, 1) := by decide +kernel
theorem dX12_multiplier_271 : decode cX12_multiplier 271 = .ok (.iload_n 1, 1) := by decide +kernel
theorem dX12_multiplier_272 : decode cX12_multiplier 272 = .ok (.iload 6, 2) := by decide +kernel
theorem dX12_multiplier_274 : decode cX12_multiplier 274 = .ok (.aload_n 0, 1) := by decide +kernel
theorem dX12_multiplier_275 : decode cX12_multiplier 275 = .ok (.getfield 97, 3) := by decide +kernel
theorem dX12_multiplier_278 : decode cX12_multiplier 278 = .ok (.invokevirtual 100, 3) := by decide +kernel
theorem dX12_multiplier_281 : decode cX12_multiplier 281 = .ok (.iastore, 1) := by decide +kernel
theorem dX12_multiplier_282 : decode cX12_multiplier 282 = .ok (.iinc 5 1, 3) := by decide +kernel
theorem dX12_multiplier_285 : decode cX12_multiplier 285 = .ok (.goto (-89), 3) := by decide +kernel
theorem dX12_multiplier_288 : decode cX12_multiplier 288 = .ok (.aload_n 0, 1) := by decide +kernel
theorem dX12_multiplier_289 : decode cX12_multiplier 289 = .ok (.getfield 67, 3) := by decide +kernel
theorem dX12_multiplier_292 : decode cX12_multiplier 292 = .ok (.iload_n 2, 1) := by decide +kernel
theorem dX12_multiplier_293 : decode cX12_multiplier 293 = .ok (.aload_n 0, 1) := by decide +kernel
theorem dX12_multiplier_294 : decode cX12_multiplier 294 = .ok (.getfield 97, 3) := by decide +kernel
theorem dX12_multiplier_297 : decode cX12_multiplier 297 = .ok (.iastore, 1) := by decide +kernel
theorem dX12_multiplier_298 : decode cX12_multiplier 298 = .ok (.iload_n 2, 1) := by decide +kernel
theorem dX12_multiplier_299 : decode cX12_multiplier 299 = .ok (.iconst 1, 1) := by decide +kernel
theorem dX12_multiplier_300 : decode cX12_multiplier 300 = .ok (.iadd, 1) := by decide +kernel
theorem dX12_multiplier_301 : decode cX12_multiplier 301 = .ok (.istore_n 3, 1) := by decide +kernel
theorem dX12_multiplier_302 : decode cX12_multiplier 302 = .ok (.iinc 4 1, 3) := by decide +kernel
theorem dX12_multiplier_305 : decode cX12_multiplier 305 = .ok (.goto (-164), 3) := by decide +kernel
theorem dX12_multiplier_308 : decode cX12_multiplier 308 = .ok (.iconst 0, 1) := by decide +kernel
theorem dX12_multiplier_309 : decode cX12_multiplier 309 = .ok (.istore 4, 2) := by decide +kernel
theorem dX12_multiplier_311 : decode cX12_multiplier 311 = .ok (.iload 4, 2) := by decide +kernel
theorem dX12_multiplier_313 : decode cX12_multiplier 313 = .ok (.iload_n 3, 1) := by decide +kernel
theorem dX12_multiplier_314 : decode cX12_multiplier 314 = .ok (.if_icmp .ge 22, 3) := by decide +kernel
theorem dX12_multiplier_317 : decode cX12_multiplier 317 = .ok (.aload_n 0, 1) := by decide +kernel
theorem dX12_multiplier_318 : decode cX12_multiplier 318 = .ok (.iload_n 1, 1) := by decide +kernel
theorem dX12_multiplier_319 : decode cX12_multiplier 319 = .ok (.aload_n 0, 1) := by decide +kernel
theorem dX12_multiplier_320 : decode cX12_multiplier 320 = .ok (.getfield 67, 3) := by decide +kernel
theorem dX12_multiplier_323 : decode cX12_multiplier 323 = .ok (.iload 4, 2) := by decide +kernel
theorem dX12_multiplier_325 : decode cX12_multiplier 325 = .ok (.iaload, 1) := by decide +kernel
theorem dX12_multiplier_326 : decode cX12_multiplier 326 = .ok (.invokevirtual 93, 3) := by decide +kernel
theorem dX12_multiplier_329 : decode cX12_multiplier 329 = .ok (.pop, 1) := by decide +kernel
theorem dX12_multiplier_330 : decode cX12_multiplier 330 = .ok (.iinc 4 1, 3) := by decide +kernel
theorem dX12_multiplier_333 : decode cX12_multiplier 333 = .ok (.goto (-22), 3) := by decide +kernel
theorem dX12_multiplier_336 : decode cX12_multiplier 336 = .ok (.aload_n 0, 1) := by decide +kernel
theorem dX12_multiplier_337 : decode cX12_multiplier 337 = .ok (.getfield 22, 3) := by decide +kernel
theorem dX12_multiplier_340 : decode cX12_multiplier 340 = .ok (.iload_n 1, 1) := by decide +kernel
theorem dX12_multiplier_341 : decode cX12_multiplier 341 = .ok (.iaload, 1) := by decide +kernel
theorem dX12_multiplier_342 : decode cX12_multiplier 342 = .ok (.ireturn, 1) := by decide +kernel
set_option maxRecDepth 20000 in
theorem ggX12_clear_X12_isNet : GoodIn wsX12_clear wsX12_isNet := goodIn_r _ [8, 9, 10, 7, 11] (by decide +kernel) (by decide +kernel)
set_option maxRecDepth 20000 in
theorem gX12_clear_X12_isNet : GoodIn wsX12_clear (va_wsS RX12 81 yX12_isNet wsX12_isNet) := goodIn_app (goodIn_of _ (by decide +kernel)) ggX12_clear_X12_isNet
theorem dX12_clear_0 : decode cX12_clear 0 = .ok (.aload_n 0, 1) := by decide +kernel
theorem dX12_clear_1 : decode cX12_clear 1 = .ok (.iload_n 1, 1) := by decide +kernel
theorem dX12_clear_2 : decode cX12_clear 2 = .ok (.invokestatic 81, 3) := by decide +kernel
theorem dX12_clear_5 : decode cX12_clear 5 = .ok (.ifCond .eq 7, 3) := by decide +kernel
theorem dX12_clear_8 : decode cX12_clear 8 = .ok (.iconst 0, 1) := by decide +kernel
theorem dX12_clear_9 : decode cX12_clear 9 = .ok (.goto 4, 3) := by decide +kernel
theorem dX12_clear_12 : decode cX12_clear 12 = .ok (.iconst 1, 1) := by decide +kernel
theorem dX12_clear_13 : decode cX12_clear 13 = .ok (.putfield 73, 3) := by decide +kernel
theorem dX12_clear_16 : decode cX12_clear 16 = .ok (.aload_n 0, 1) := by decide +kernel
theorem dX12_clear_17 : decode cX12_clear 17 = .ok (.getfield 73, 3) := by decide +kernel
theorem dX12_clear_20 : decode cX12_clear 20 = .ok (.ifCond .le 5, 3) := by decide +kernel
theorem dX12_clear_23 : decode cX12_clear 23 = .ok (.iconst 0, 1) := by decide +kernel
theorem dX12_clear_24 : decode cX12_clear 24 = .ok (.ireturn, 1) := by decide +kernel
theorem dX12_clear_25 : decode cX12_clear 25 = .ok (.aload_n 0, 1) := by decide +kernel
theorem dX12_clear_26 : decode cX12_clear 26 = .ok (.getfield 22, 3) := by decide +kernel
theorem dX12_clear_29 : decode cX12_clear 29 = .ok (.iload_n 1, 1) := by decide +kernel
theorem dX12_clear_30 : decode cX12_clear 30 = .ok (.iaload, 1) := by decide +kernel
theorem dX12_clear_31 : decode cX12_clear 31 = .ok (.istore_n 2, 1) := by decide +kernel
theorem dX12_clear_32 : decode cX12_clear 32 = .ok (.aload_n 0, 1) := by decide +kernel
theorem dX12_clear_33 : decode cX12_clear 33 = .ok (.getfield 22, 3) := by decide +kernel
theorem dX12_clear_36 : decode cX12_clear 36 = .ok (.iload_n 1, 1) := by decide +kernel
theorem dX12_clear_37 : decode cX12_clear 37 = .ok (.iconst 0, 1) := by decide +kernel
theorem dX12_clear_38 : decode cX12_clear 38 = .ok (.iastore, 1) := by decide +kernel
theorem dX12_clear_39 : decode cX12_clear 39 = .ok (.aload_n 0, 1) := by decide +kernel
theorem dX12_clear_40 : decode cX12_clear 40 = .ok (.getfield 25, 3) := by decide +kernel
theorem dX12_clear_43 : decode cX12_clear 43 = .ok (.iload_n 1, 1) := by decide +kernel
theorem dX12_clear_44 : decode cX12_clear 44 = .ok (.iconst 0, 1) := by decide +kernel
theorem dX12_clear_45 : decode cX12_clear 45 = .ok (.iastore, 1) := by decide +kernel
theorem dX12_clear_46 : decode cX12_clear 46 = .ok (.aload_n 0, 1) := by decide +kernel
theorem dX12_clear_47 : decode cX12_clear 47 = .ok (.getfield 31, 3) := by decide +kernel
theorem dX12_clear_50 : decode cX12_clear 50 = .ok (.iload_n 1, 1) := by decide +kernel
theorem dX12_clear_51 : decode cX12_clear 51 = .ok (.iconst 0, 1) := by decide +kernel
theorem dX12_clear_52 : decode cX12_clear 52 = .ok (.iastore, 1) := by decide +kernel
theorem dX12_clear_53 : decode cX12_clear 53 = .ok (.iload_n 2, 1) := by decide +kernel
theorem dX12_clear_54 : decode cX12_clear 54 = .ok (.ireturn, 1) := by decide +kernel
set_option maxRecDepth 20000 in
theorem ggX12_cost_X12_isIn : GoodIn wsX12_cost wsX12_isIn := goodIn_r _ [7] (by decide +kernel) (by decide +kernel)
set_option maxRecDepth 20000 in
theorem gX12_cost_X12_isIn : GoodIn wsX12_cost (va_wsS RX12 77 yX12_isIn wsX12_isIn) := goodIn_app (goodIn_of _ (by decide +kernel)) ggX12_cost_X12_isIn
theorem dX12_cost_0 : decode cX12_cost 0 = .ok (.aload_n 0, 1) := by decide +kernel
theorem dX12_cost_1 : decode cX12_cost 1 = .ok (.iload_n 1, 1) := by decide +kernel
theorem dX12_cost_2 : decode cX12_cost 2 = .ok (.iconst 0, 1) := by decide +kernel
theorem dX12_cost_3 : decode cX12_cost 3 = .ok (.iconst 3, 1) := by decide +kernel
theorem dX12_cost_4 : decode cX12_cost 4 = .ok (.invokestatic 77, 3) := by decide +kernel
theorem dX12_cost_7 : decode cX12_cost 7 = .ok (.ifCond .ne 7, 3) := by decide +kernel
theorem dX12_cost_10 : decode cX12_cost 10 = .ok (.iconst 1, 1) := by decide +kernel
theorem dX12_cost_11 : decode cX12_cost 11 = .ok (.goto 28, 3) := by decide +kernel
theorem dX12_cost_14 : decode cX12_cost 14 = .ok (.iload_n 2, 1) := by decide +kernel
theorem dX12_cost_15 : decode cX12_cost 15 = .ok (.iconst 1, 1) := by decide +kernel
theorem dX12_cost_16 : decode cX12_cost 16 = .ok (.bipush 9, 2) := by decide +kernel
theorem dX12_cost_18 : decode cX12_cost 18 = .ok (.invokestatic 77, 3) := by decide +kernel
theorem dX12_cost_21 : decode cX12_cost 21 = .ok (.ifCond .eq 13, 3) := by decide +kernel
theorem dX12_cost_24 : decode cX12_cost 24 = .ok (.iload_n 3, 1) := by decide +kernel
theorem dX12_cost_25 : decode cX12_cost 25 = .ok (.iconst 0, 1) := by decide +kernel
theorem dX12_cost_26 : decode cX12_cost 26 = .ok (.bipush 99, 2) := by decide +kernel
theorem dX12_cost_28 : decode cX12_cost 28 = .ok (.invokestatic 77, 3) := by decide +kernel
theorem dX12_cost_31 : decode cX12_cost 31 = .ok (.ifCond .ne 7, 3) := by decide +kernel
theorem dX12_cost_34 : decode cX12_cost 34 = .ok (.iconst 2, 1) := by decide +kernel
theorem dX12_cost_35 : decode cX12_cost 35 = .ok (.goto 4, 3) := by decide +kernel
theorem dX12_cost_38 : decode cX12_cost 38 = .ok (.iconst 0, 1) := by decide +kernel
theorem dX12_cost_39 : decode cX12_cost 39 = .ok (.putfield 73, 3) := by decide +kernel
theorem dX12_cost_42 : decode cX12_cost 42 = .ok (.aload_n 0, 1) := by decide +kernel
theorem dX12_cost_43 : decode cX12_cost 43 = .ok (.getfield 73, 3) := by decide +kernel
theorem dX12_cost_46 : decode cX12_cost 46 = .ok (.ifCond .le 5, 3) := by decide +kernel
theorem dX12_cost_49 : decode cX12_cost 49 = .ok (.iconst 0, 1) := by decide +kernel
theorem dX12_cost_50 : decode cX12_cost 50 = .ok (.ireturn, 1) := by decide +kernel
theorem dX12_cost_51 : decode cX12_cost 51 = .ok (.aload_n 0, 1) := by decide +kernel
theorem dX12_cost_52 : decode cX12_cost 52 = .ok (.getfield 34, 3) := by decide +kernel
theorem dX12_cost_55 : decode cX12_cost 55 = .ok (.iload_n 1, 1) := by decide +kernel
theorem dX12_cost_56 : decode cX12_cost 56 = .ok (.iaload, 1) := by decide +kernel
theorem dX12_cost_57 : decode cX12_cost 57 = .ok (.istore 4, 2) := by decide +kernel
theorem dX12_cost_59 : decode cX12_cost 59 = .ok (.aload_n 0, 1) := by decide +kernel
theorem dX12_cost_60 : decode cX12_cost 60 = .ok (.getfield 34, 3) := by decide +kernel
theorem dX12_cost_63 : decode cX12_cost 63 = .ok (.iload_n 1, 1) := by decide +kernel
theorem dX12_cost_64 : decode cX12_cost 64 = .ok (.iload_n 2, 1) := by decide +kernel
theorem dX12_cost_65 : decode cX12_cost 65 = .ok (.iastore, 1) := by decide +kernel
theorem dX12_cost_66 : decode cX12_cost 66 = .ok (.aload_n 0, 1) := by decide +kernel
theorem dX12_cost_67 : decode cX12_cost 67 = .ok (.getfield 37, 3) := by decide +kernel
theorem dX12_cost_70 : decode cX12_cost 70 = .ok (.iload_n 1, 1) := by decide +kernel
theorem dX12_cost_71 : decode cX12_cost 71 = .ok (.iload_n 3, 1) := by decide +kernel
theorem dX12_cost_72 : decode cX12_cost 72 = .ok (.iastore, 1) := by decide +kernel
theorem dX12_cost_73 : decode cX12_cost 73 = .ok (.iload 4, 2) := by decide +kernel
theorem dX12_cost_75 : decode cX12_cost 75 = .ok (.ireturn, 1) := by decide +kernel
set_option maxRecDepth 20000 in
theorem ggX12_stick_X12_isGate : GoodIn wsX12_stick wsX12_isGate := goodIn_r _ [7, 8, 9, 10, 6, 11, 12, 13, 14, 15, 16, 17, 18, 19, 20, 21, 22, 23, 24, 25, 26, 27, 28, 29, 30, 31, 32, 33, 34, 35, 36, 37] (by decide +kernel) (by decide +kernel)
set_option maxRecDepth 20000 in
theorem gX12_stick_X12_isGate : GoodIn wsX12_stick (wsV RX12 89 RX12 yX12_isGate wsX12_isGate) := goodIn_app (goodIn_of _ (by decide +kernel)) ggX12_stick_X12_isGate
set_option maxRecDepth 20000 in
theorem ggX12_stick_X12_isIn : GoodIn wsX12_stick wsX12_isIn := goodIn_r _ [14] (by decide +kernel) (by decide +kernel)
set_option maxRecDepth 20000 in
theorem gX12_stick_X12_isIn : GoodIn wsX12_stick (va_wsS RX12 77 yX12_isIn wsX12_isIn) := goodIn_app (goodIn_of _ (by decide +kernel)) ggX12_stick_X12_isIn
theorem dX12_stick_0 : decode cX12_stick 0 = .ok (.aload_n 0, 1) := by decide +kernel
theorem dX12_stick_1 : decode cX12_stick 1 = .ok (.aload_n 0, 1) := by decide +kernel
theorem dX12_stick_2 : decode cX12_stick 2 = .ok (.iload_n 1, 1) := by decide +kernel
theorem dX12_stick_3 : decode cX12_stick 3 = .ok (.iload_n 2, 1) := by decide +kernel
theorem dX12_stick_4 : decode cX12_stick 4 = .ok (.invokevirtual 89, 3) := by decide +kernel
theorem dX12_stick_7 : decode cX12_stick 7 = .ok (.ifCond .ne 7, 3) := by decide +kernel
theorem dX12_stick_10 : decode cX12_stick 10 = .ok (.iconst 1, 1) := by decide +kernel
theorem dX12_stick_11 : decode cX12_stick 11 = .ok (.goto 17, 3) := by decide +kernel
theorem dX12_stick_14 : decode cX12_stick 14 = .ok (.iload_n 3, 1) := by decide +kernel
theorem dX12_stick_15 : decode cX12_stick 15 = .ok (.iconst (-1), 1) := by decide +kernel
theorem dX12_stick_16 : decode cX12_stick 16 = .ok (.iconst 1, 1) := by decide +kernel
theorem dX12_stick_17 : decode cX12_stick 17 = .ok (.invokestatic 77, 3) := by decide +kernel
theorem dX12_stick_20 : decode cX12_stick 20 = .ok (.ifCond .ne 7, 3) := by decide +kernel
theorem dX12_stick_23 : decode cX12_stick 23 = .ok (.iconst 2, 1) := by decide +kernel
theorem dX12_stick_24 : decode cX12_stick 24 = .ok (.goto 4, 3) := by decide +kernel
theorem dX12_stick_27 : decode cX12_stick 27 = .ok (.iconst 0, 1) := by decide +kernel
theorem dX12_stick_28 : decode cX12_stick 28 = .ok (.putfield 73, 3) := by decide +kernel
theorem dX12_stick_31 : decode cX12_stick 31 = .ok (.aload_n 0, 1) := by decide +kernel
theorem dX12_stick_32 : decode cX12_stick 32 = .ok (.getfield 73, 3) := by decide +kernel
theorem dX12_stick_35 : decode cX12_stick 35 = .ok (.ifCond .le 5, 3) := by decide +kernel
theorem dX12_stick_38 : decode cX12_stick 38 = .ok (.iconst 0, 1) := by decide +kernel
theorem dX12_stick_39 : decode cX12_stick 39 = .ok (.ireturn, 1) := by decide +kernel
theorem dX12_stick_40 : decode cX12_stick 40 = .ok (.aload_n 0, 1) := by decide +kernel
theorem dX12_stick_41 : decode cX12_stick 41 = .ok (.getfield 19, 3) := by decide +kernel
theorem dX12_stick_44 : decode cX12_stick 44 = .ok (.bipush 120, 2) := by decide +kernel
theorem dX12_stick_46 : decode cX12_stick 46 = .ok (.iload_n 1, 1) := by decide +kernel
theorem dX12_stick_47 : decode cX12_stick 47 = .ok (.imul, 1) := by decide +kernel
theorem dX12_stick_48 : decode cX12_stick 48 = .ok (.iload_n 2, 1) := by decide +kernel
theorem dX12_stick_49 : decode cX12_stick 49 = .ok (.iadd, 1) := by decide +kernel
theorem dX12_stick_50 : decode cX12_stick 50 = .ok (.iaload, 1) := by decide +kernel
theorem dX12_stick_51 : decode cX12_stick 51 = .ok (.istore 4, 2) := by decide +kernel
theorem dX12_stick_53 : decode cX12_stick 53 = .ok (.aload_n 0, 1) := by decide +kernel
theorem dX12_stick_54 : decode cX12_stick 54 = .ok (.getfield 19, 3) := by decide +kernel
theorem dX12_stick_57 : decode cX12_stick 57 = .ok (.bipush 120, 2) := by decide +kernel
theorem dX12_stick_59 : decode cX12_stick 59 = .ok (.iload_n 1, 1) := by decide +kernel
theorem dX12_stick_60 : decode cX12_stick 60 = .ok (.imul, 1) := by decide +kernel
theorem dX12_stick_61 : decode cX12_stick 61 = .ok (.iload_n 2, 1) := by decide +kernel
theorem dX12_stick_62 : decode cX12_stick 62 = .ok (.iadd, 1) := by decide +kernel
theorem dX12_stick_63 : decode cX12_stick 63 = .ok (.iload_n 3, 1) := by decide +kernel
theorem dX12_stick_64 : decode cX12_stick 64 = .ok (.iastore, 1) := by decide +kernel
theorem dX12_stick_65 : decode cX12_stick 65 = .ok (.iload 4, 2) := by decide +kernel
theorem dX12_stick_67 : decode cX12_stick 67 = .ok (.ireturn, 1) := by decide +kernel
theorem dX12_follows_0 : decode cX12_follows 0 = .ok (.iload_n 0, 1) := by decide +kernel
theorem dX12_follows_1 : decode cX12_follows 1 = .ok (.ifCond .ne 9, 3) := by decide +kernel
theorem dX12_follows_4 : decode cX12_follows 4 = .ok (.iload_n 1, 1) := by decide +kernel
theorem dX12_follows_5 : decode cX12_follows 5 = .ok (.iload_n 2, 1) := by decide +kernel
theorem dX12_follows_6 : decode cX12_follows 6 = .ok (.iand, 1) := by decide +kernel
theorem dX12_follows_7 : decode cX12_follows 7 = .ok (.goto 28, 3) := by decide +kernel
theorem dX12_follows_10 : decode cX12_follows 10 = .ok (.iload_n 0, 1) := by decide +kernel
theorem dX12_follows_11 : decode cX12_follows 11 = .ok (.iconst 1, 1) := by decide +kernel
theorem dX12_follows_12 : decode cX12_follows 12 = .ok (.if_icmp .ne 9, 3) := by decide +kernel
theorem dX12_follows_15 : decode cX12_follows 15 = .ok (.iload_n 1, 1) := by decide +kernel
theorem dX12_follows_16 : decode cX12_follows 16 = .ok (.iload_n 2, 1) := by decide +kernel
theorem dX12_follows_17 : decode cX12_follows 17 = .ok (.ior, 1) := by decide +kernel
theorem dX12_follows_18 : decode cX12_follows 18 = .ok (.goto 17, 3) := by decide +kernel
theorem dX12_follows_21 : decode cX12_follows 21 = .ok (.iload_n 0, 1) := by decide +kernel
theorem dX12_follows_22 : decode cX12_follows 22 = .ok (.iconst 2, 1) := by decide +kernel
theorem dX12_follows_23 : decode cX12_follows 23 = .ok (.if_icmp .ne 9, 3) := by decide +kernel
theorem dX12_follows_26 : decode cX12_follows 26 = .ok (.iload_n 1, 1) := by decide +kernel
theorem dX12_follows_27 : decode cX12_follows 27 = .ok (.iload_n 2, 1) := by decide +kernel
theorem dX12_follows_28 : decode cX12_follows 28 = .ok (.ixor, 1) := by decide +kernel
theorem dX12_follows_29 : decode cX12_follows 29 = .ok (.goto 6, 3) := by decide +kernel
theorem dX12_follows_32 : decode cX12_follows 32 = .ok (.iconst 1, 1) := by decide +kernel
theorem dX12_follows_33 : decode cX12_follows 33 = .ok (.iload_n 1, 1) := by decide +kernel
theorem dX12_follows_34 : decode cX12_follows 34 = .ok (.isub, 1) := by decide +kernel
theorem dX12_follows_35 : decode cX12_follows 35 = .ok (.ireturn, 1) := by decide +kernel
set_option maxRecDepth 20000 in
theorem ggX12_findsBits_X12_follows : GoodIn wsX12_findsBits wsX12_follows := goodIn_r _ [10] (by decide +kernel) (by decide +kernel)
set_option maxRecDepth 20000 in
theorem gX12_findsBits_X12_follows : GoodIn wsX12_findsBits (va_wsS RX12 118 yX12_follows wsX12_follows) := goodIn_app (goodIn_of _ (by decide +kernel)) ggX12_findsBits_X12_follows
theorem dX12_findsBits_0 : decode cX12_findsBits 0 = .ok (.iload_n 2, 1) := by decide +kernel
theorem dX12_findsBits_1 : decode cX12_findsBits 1 = .ok (.istore_n 3, 1) := by decide +kernel
theorem dX12_findsBits_2 : decode cX12_findsBits 2 = .ok (.iconst 0, 1) := by decide +kernel
theorem dX12_findsBits_3 : decode cX12_findsBits 3 = .ok (.istore 4, 2) := by decide +kernel
theorem dX12_findsBits_5 : decode cX12_findsBits 5 = .ok (.iload 4, 2) := by decide +kernel
theorem dX12_findsBits_7 : decode cX12_findsBits 7 = .ok (.aload_n 0, 1) := by decide +kernel
theorem dX12_findsBits_8 : decode cX12_findsBits 8 = .ok (.getfield 22, 3) := by decide +kernel
theorem dX12_findsBits_11 : decode cX12_findsBits 11 = .ok (.iload_n 1, 1) := by decide +kernel
theorem dX12_findsBits_12 : decode cX12_findsBits 12 = .ok (.iaload, 1) := by decide +kernel
theorem dX12_findsBits_13 : decode cX12_findsBits 13 = .ok (.if_icmp .ge 126, 3) := by decide +kernel
theorem dX12_findsBits_16 : decode cX12_findsBits 16 = .ok (.bipush 120, 2) := by decide +kernel
theorem dX12_findsBits_18 : decode cX12_findsBits 18 = .ok (.iload_n 1, 1) := by decide +kernel
theorem dX12_findsBits_19 : decode cX12_findsBits 19 = .ok (.imul, 1) := by decide +kernel
theorem dX12_findsBits_20 : decode cX12_findsBits 20 = .ok (.iload 4, 2) := by decide +kernel
theorem dX12_findsBits_22 : decode cX12_findsBits 22 = .ok (.iadd, 1) := by decide +kernel
theorem dX12_findsBits_23 : decode cX12_findsBits 23 = .ok (.istore 5, 2) := by decide +kernel
theorem dX12_findsBits_25 : decode cX12_findsBits 25 = .ok (.aload_n 0, 1) := by decide +kernel
theorem dX12_findsBits_26 : decode cX12_findsBits 26 = .ok (.getfield 7, 3) := by decide +kernel
theorem dX12_findsBits_29 : decode cX12_findsBits 29 = .ok (.iload 5, 2) := by decide +kernel
theorem dX12_findsBits_31 : decode cX12_findsBits 31 = .ok (.iaload, 1) := by decide +kernel
theorem dX12_findsBits_32 : decode cX12_findsBits 32 = .ok (.iconst 4, 1) := by decide +kernel
theorem dX12_findsBits_33 : decode cX12_findsBits 33 = .ok (.if_icmp .ne 7, 3) := by decide +kernel
theorem dX12_findsBits_36 : decode cX12_findsBits 36 = .ok (.iconst 1, 1) := by decide +kernel
theorem dX12_findsBits_37 : decode cX12_findsBits 37 = .ok (.goto 4, 3) := by decide +kernel
theorem dX12_findsBits_40 : decode cX12_findsBits 40 = .ok (.iconst 0, 1) := by decide +kernel
theorem dX12_findsBits_41 : decode cX12_findsBits 41 = .ok (.istore 6, 2) := by decide +kernel
theorem dX12_findsBits_43 : decode cX12_findsBits 43 = .ok (.iload 6, 2) := by decide +kernel
theorem dX12_findsBits_45 : decode cX12_findsBits 45 = .ok (.ifCond .eq 9, 3) := by decide +kernel
theorem dX12_findsBits_48 : decode cX12_findsBits 48 = .ok (.iload_n 3, 1) := by decide +kernel
theorem dX12_findsBits_49 : decode cX12_findsBits 49 = .ok (.iconst 1, 1) := by decide +kernel
theorem dX12_findsBits_50 : decode cX12_findsBits 50 = .ok (.iand, 1) := by decide +kernel
theorem dX12_findsBits_51 : decode cX12_findsBits 51 = .ok (.goto 37, 3) := by decide +kernel
theorem dX12_findsBits_54 : decode cX12_findsBits 54 = .ok (.aload_n 0, 1) := by decide +kernel
theorem dX12_findsBits_55 : decode cX12_findsBits 55 = .ok (.getfield 7, 3) := by decide +kernel
theorem dX12_findsBits_58 : decode cX12_findsBits 58 = .ok (.iload 5, 2) := by decide +kernel
theorem dX12_findsBits_60 : decode cX12_findsBits 60 = .ok (.iaload, 1) := by decide +kernel
theorem dX12_findsBits_61 : decode cX12_findsBits 61 = .ok (.aload_n 0, 1) := by decide +kernel
theorem dX12_findsBits_62 : decode cX12_findsBits 62 = .ok (.getfield 40, 3) := by decide +kernel
theorem dX12_findsBits_65 : decode cX12_findsBits 65 = .ok (.aload_n 0, 1) := by decide +kernel
theorem dX12_findsBits_66 : decode cX12_findsBits 66 = .ok (.getfield 13, 3) := by decide +kernel
theorem dX12_findsBits_69 : decode cX12_findsBits 69 = .ok (.iload 5, 2) := by decide +kernel
theorem dX12_findsBits_71 : decode cX12_findsBits 71 = .ok (.iaload, 1) := by decide +kernel
theorem dX12_findsBits_72 : decode cX12_findsBits 72 = .ok (.iaload, 1) := by decide +kernel
theorem dX12_findsBits_73 : decode cX12_findsBits 73 = .ok (.aload_n 0, 1) := by decide +kernel
theorem dX12_findsBits_74 : decode cX12_findsBits 74 = .ok (.getfield 40, 3) := by decide +kernel
theorem dX12_findsBits_77 : decode cX12_findsBits 77 = .ok (.aload_n 0, 1) := by decide +kernel
theorem dX12_findsBits_78 : decode cX12_findsBits 78 = .ok (.getfield 16, 3) := by decide +kernel
theorem dX12_findsBits_81 : decode cX12_findsBits 81 = .ok (.iload 5, 2) := by decide +kernel
theorem dX12_findsBits_83 : decode cX12_findsBits 83 = .ok (.iaload, 1) := by decide +kernel
theorem dX12_findsBits_84 : decode cX12_findsBits 84 = .ok (.iaload, 1) := by decide +kernel
theorem dX12_findsBits_85 : decode cX12_findsBits 85 = .ok (.invokestatic 118, 3) := by decide +kernel
theorem dX12_findsBits_88 : decode cX12_findsBits 88 = .ok (.istore 7, 2) := by decide +kernel
theorem dX12_findsBits_90 : decode cX12_findsBits 90 = .ok (.iload 6, 2) := by decide +kernel
theorem dX12_findsBits_92 : decode cX12_findsBits 92 = .ok (.ifCond .eq 9, 3) := by decide +kernel
theorem dX12_findsBits_95 : decode cX12_findsBits 95 = .ok (.iload_n 3, 1) := by decide +kernel
theorem dX12_findsBits_96 : decode cX12_findsBits 96 = .ok (.iconst 1, 1) := by decide +kernel
theorem dX12_findsBits_97 : decode cX12_findsBits 97 = .ok (.ishr, 1) := by decide +kernel
theorem dX12_findsBits_98 : decode cX12_findsBits 98 = .ok (.goto 4, 3) := by decide +kernel
theorem dX12_findsBits_101 : decode cX12_findsBits 101 = .ok (.iload_n 3, 1) := by decide +kernel
theorem dX12_findsBits_102 : decode cX12_findsBits 102 = .ok (.istore_n 3, 1) := by decide +kernel
theorem dX12_findsBits_103 : decode cX12_findsBits 103 = .ok (.aload_n 0, 1) := by decide +kernel
theorem dX12_findsBits_104 : decode cX12_findsBits 104 = .ok (.getfield 40, 3) := by decide +kernel
theorem dX12_findsBits_107 : decode cX12_findsBits 107 = .ok (.iload 4, 2) := by decide +kernel
theorem dX12_findsBits_109 : decode cX12_findsBits 109 = .ok (.aload_n 0, 1) := by decide +kernel
theorem dX12_findsBits_110 : decode cX12_findsBits 110 = .ok (.getfield 19, 3) := by decide +kernel
theorem dX12_findsBits_113 : decode cX12_findsBits 113 = .ok (.iload 5, 2) := by decide +kernel
theorem dX12_findsBits_115 : decode cX12_findsBits 115 = .ok (.iaload, 1) := by decide +kernel
theorem dX12_findsBits_116 : decode cX12_findsBits 116 = .ok (.iconst (-1), 1) := by decide +kernel
theorem dX12_findsBits_117 : decode cX12_findsBits 117 = .ok (.if_icmp .ne 8, 3) := by decide +kernel
theorem dX12_findsBits_120 : decode cX12_findsBits 120 = .ok (.iload 7, 2) := by decide +kernel
theorem dX12_findsBits_122 : decode cX12_findsBits 122 = .ok (.goto 10, 3) := by decide +kernel
theorem dX12_findsBits_125 : decode cX12_findsBits 125 = .ok (.aload_n 0, 1) := by decide +kernel
theorem dX12_findsBits_126 : decode cX12_findsBits 126 = .ok (.getfield 19, 3) := by decide +kernel
theorem dX12_findsBits_129 : decode cX12_findsBits 129 = .ok (.iload 5, 2) := by decide +kernel
theorem dX12_findsBits_131 : decode cX12_findsBits 131 = .ok (.iaload, 1) := by decide +kernel
theorem dX12_findsBits_132 : decode cX12_findsBits 132 = .ok (.iastore, 1) := by decide +kernel
theorem dX12_findsBits_133 : decode cX12_findsBits 133 = .ok (.iinc 4 1, 3) := by decide +kernel
theorem dX12_findsBits_136 : decode cX12_findsBits 136 = .ok (.goto (-131), 3) := by decide +kernel
theorem dX12_findsBits_139 : decode cX12_findsBits 139 = .ok (.return_, 1) := by decide +kernel
set_option maxRecDepth 20000 in
theorem ggX12_valueOf_X12_findsBits : GoodIn wsX12_valueOf wsX12_findsBits := goodIn_r _ [8, 9, 10, 2, 11, 12, 13, 14, 15, 7, 16, 17, 18, 19, 20, 21, 22, 23, 24, 25, 26, 27, 28, 29, 30, 31, 32, 33, 34, 35, 36, 37, 38, 39] (by decide +kernel) (by decide +kernel)
set_option maxRecDepth 20000 in
theorem gX12_valueOf_X12_findsBits : GoodIn wsX12_valueOf (wsV RX12 121 RX12 yX12_findsBits wsX12_findsBits) := goodIn_app (goodIn_of _ (by decide +kernel)) ggX12_valueOf_X12_findsBits
theorem dX12_valueOf_0 : decode cX12_valueOf 0 = .ok (.aload_n 0, 1) := by decide +kernel
theorem dX12_valueOf_1 : decode cX12_valueOf 1 = .ok (.iload_n 1, 1) := by decide +kernel
theorem dX12_valueOf_2 : decode cX12_valueOf 2 = .ok (.iload_n 2, 1) := by decide +kernel
theorem dX12_valueOf_3 : decode cX12_valueOf 3 = .ok (.invokevirtual 121, 3) := by decide +kernel
theorem dX12_valueOf_6 : decode cX12_valueOf 6 = .ok (.iconst 0, 1) := by decide +kernel
theorem dX12_valueOf_7 : decode cX12_valueOf 7 = .ok (.istore_n 3, 1) := by decide +kernel
theorem dX12_valueOf_8 : decode cX12_valueOf 8 = .ok (.iconst 0, 1) := by decide +kernel
theorem dX12_valueOf_9 : decode cX12_valueOf 9 = .ok (.istore 4, 2) := by decide +kernel
theorem dX12_valueOf_11 : decode cX12_valueOf 11 = .ok (.iload 4, 2) := by decide +kernel
theorem dX12_valueOf_13 : decode cX12_valueOf 13 = .ok (.aload_n 0, 1) := by decide +kernel
theorem dX12_valueOf_14 : decode cX12_valueOf 14 = .ok (.getfield 31, 3) := by decide +kernel
theorem dX12_valueOf_17 : decode cX12_valueOf 17 = .ok (.iload_n 1, 1) := by decide +kernel
theorem dX12_valueOf_18 : decode cX12_valueOf 18 = .ok (.iaload, 1) := by decide +kernel
theorem dX12_valueOf_19 : decode cX12_valueOf 19 = .ok (.if_icmp .ge 32, 3) := by decide +kernel
theorem dX12_valueOf_22 : decode cX12_valueOf 22 = .ok (.iload_n 3, 1) := by decide +kernel
theorem dX12_valueOf_23 : decode cX12_valueOf 23 = .ok (.aload_n 0, 1) := by decide +kernel
theorem dX12_valueOf_24 : decode cX12_valueOf 24 = .ok (.getfield 40, 3) := by decide +kernel
theorem dX12_valueOf_27 : decode cX12_valueOf 27 = .ok (.aload_n 0, 1) := by decide +kernel
theorem dX12_valueOf_28 : decode cX12_valueOf 28 = .ok (.getfield 28, 3) := by decide +kernel
theorem dX12_valueOf_31 : decode cX12_valueOf 31 = .ok (.bipush 16, 2) := by decide +kernel
theorem dX12_valueOf_33 : decode cX12_valueOf 33 = .ok (.iload_n 1, 1) := by decide +kernel
theorem dX12_valueOf_34 : decode cX12_valueOf 34 = .ok (.imul, 1) := by decide +kernel
theorem dX12_valueOf_35 : decode cX12_valueOf 35 = .ok (.iload 4, 2) := by decide +kernel
theorem dX12_valueOf_37 : decode cX12_valueOf 37 = .ok (.iadd, 1) := by decide +kernel
theorem dX12_valueOf_38 : decode cX12_valueOf 38 = .ok (.iaload, 1) := by decide +kernel
theorem dX12_valueOf_39 : decode cX12_valueOf 39 = .ok (.iaload, 1) := by decide +kernel
theorem dX12_valueOf_40 : decode cX12_valueOf 40 = .ok (.iload 4, 2) := by decide +kernel
theorem dX12_valueOf_42 : decode cX12_valueOf 42 = .ok (.ishl, 1) := by decide +kernel
theorem dX12_valueOf_43 : decode cX12_valueOf 43 = .ok (.iadd, 1) := by decide +kernel
theorem dX12_valueOf_44 : decode cX12_valueOf 44 = .ok (.istore_n 3, 1) := by decide +kernel
theorem dX12_valueOf_45 : decode cX12_valueOf 45 = .ok (.iinc 4 1, 3) := by decide +kernel
theorem dX12_valueOf_48 : decode cX12_valueOf 48 = .ok (.goto (-37), 3) := by decide +kernel
theorem dX12_valueOf_51 : decode cX12_valueOf 51 = .ok (.iload_n 3, 1) := by decide +kernel
theorem dX12_valueOf_52 : decode cX12_valueOf 52 = .ok (.ireturn, 1) := by decide +kernel
set_option maxRecDepth 20000 in
theorem ggX12_isNumber_X12_isIn : GoodIn wsX12_isNumber wsX12_isIn := goodIn_r _ [5] (by decide +kernel) (by decide +kernel)
set_option maxRecDepth 20000 in
theorem gX12_isNumber_X12_isIn : GoodIn wsX12_isNumber (va_wsS RX12 77 yX12_isIn wsX12_isIn) := goodIn_app (goodIn_of _ (by decide +kernel)) ggX12_isNumber_X12_isIn
theorem dX12_isNumber_0 : decode cX12_isNumber 0 = .ok (.iload_n 0, 1) := by decide +kernel
theorem dX12_isNumber_1 : decode cX12_isNumber 1 = .ok (.iconst 0, 1) := by decide +kernel
theorem dX12_isNumber_2 : decode cX12_isNumber 2 = .ok (.ldc 124, 2) := by decide +kernel
theorem dX12_isNumber_4 : decode cX12_isNumber 4 = .ok (.invokestatic 77, 3) := by decide +kernel
theorem dX12_isNumber_7 : decode cX12_isNumber 7 = .ok (.ireturn, 1) := by decide +kernel
set_option maxRecDepth 20000 in
theorem ggX12_bit_X12_isGate : GoodIn wsX12_bit wsX12_isGate := goodIn_r _ [7, 8, 9, 10, 6, 11, 12, 13, 14, 30, 31, 32, 33, 34, 35, 36, 37, 38, 39, 40, 41, 42, 43, 44, 45, 46, 47, 48, 49, 50, 51, 52] (by decide +kernel) (by decide +kernel)
set_option maxRecDepth 20000 in
theorem gX12_bit_X12_isGate : GoodIn wsX12_bit (wsV RX12 89 RX12 yX12_isGate wsX12_isGate) := goodIn_app (goodIn_of _ (by decide +kernel)) ggX12_bit_X12_isGate
set_option maxRecDepth 20000 in
theorem ggX12_bit_X12_isNumber : GoodIn wsX12_bit wsX12_isNumber := goodIn_r _ [17, 18, 12, 13, 6, 14] (by decide +kernel) (by decide +kernel)
set_option maxRecDepth 20000 in
theorem gX12_bit_X12_isNumber : GoodIn wsX12_bit (va_wsS RX12 125 yX12_isNumber wsX12_isNumber) := goodIn_app (goodIn_of _ (by decide +kernel)) ggX12_bit_X12_isNumber
set_option maxRecDepth 20000 in
theorem ggX12_bit_X12_findsBits : GoodIn wsX12_bit wsX12_findsBits := goodIn_r _ [22, 8, 23, 2, 24, 25, 26, 27, 28, 6, 29, 30, 31, 32, 33, 34, 35, 36, 37, 38, 39, 40, 41, 42, 43, 44, 45, 46, 47, 48, 49, 50, 51, 52] (by decide +kernel) (by decide +kernel)
set_option maxRecDepth 20000 in
theorem gX12_bit_X12_findsBits : GoodIn wsX12_bit (wsV RX12 121 RX12 yX12_findsBits wsX12_findsBits) := goodIn_app (goodIn_of _ (by decide +kernel)) ggX12_bit_X12_findsBits
theorem dX12_bit_0 : decode cX12_bit 0 = .ok (.aload_n 0, 1) := by decide +kernel
theorem dX12_bit_1 : decode cX12_bit 1 = .ok (.aload_n 0, 1) := by decide +kernel
theorem dX12_bit_2 : decode cX12_bit 2 = .ok (.iload_n 1, 1) := by decide +kernel
theorem dX12_bit_3 : decode cX12_bit 3 = .ok (.iload_n 2, 1) := by decide +kernel
theorem dX12_bit_4 : decode cX12_bit 4 = .ok (.invokevirtual 89, 3) := by decide +kernel
theorem dX12_bit_7 : decode cX12_bit 7 = .ok (.ifCond .ne 7, 3) := by decide +kernel
theorem dX12_bit_10 : decode cX12_bit 10 = .ok (.iconst 1, 1) := by decide +kernel
theorem dX12_bit_11 : decode cX12_bit 11 = .ok (.goto 15, 3) := by decide +kernel
theorem dX12_bit_14 : decode cX12_bit 14 = .ok (.iload_n 3, 1) := by decide +kernel
theorem dX12_bit_15 : decode cX12_bit 15 = .ok (.invokestatic 125, 3) := by decide +kernel
theorem dX12_bit_18 : decode cX12_bit 18 = .ok (.ifCond .ne 7, 3) := by decide +kernel
theorem dX12_bit_21 : decode cX12_bit 21 = .ok (.iconst 2, 1) := by decide +kernel
theorem dX12_bit_22 : decode cX12_bit 22 = .ok (.goto 4, 3) := by decide +kernel
theorem dX12_bit_25 : decode cX12_bit 25 = .ok (.iconst 0, 1) := by decide +kernel
theorem dX12_bit_26 : decode cX12_bit 26 = .ok (.putfield 73, 3) := by decide +kernel
theorem dX12_bit_29 : decode cX12_bit 29 = .ok (.aload_n 0, 1) := by decide +kernel
theorem dX12_bit_30 : decode cX12_bit 30 = .ok (.getfield 73, 3) := by decide +kernel
theorem dX12_bit_33 : decode cX12_bit 33 = .ok (.ifCond .le 5, 3) := by decide +kernel
theorem dX12_bit_36 : decode cX12_bit 36 = .ok (.iconst 0, 1) := by decide +kernel
theorem dX12_bit_37 : decode cX12_bit 37 = .ok (.ireturn, 1) := by decide +kernel
theorem dX12_bit_38 : decode cX12_bit 38 = .ok (.aload_n 0, 1) := by decide +kernel
theorem dX12_bit_39 : decode cX12_bit 39 = .ok (.iload_n 1, 1) := by decide +kernel
theorem dX12_bit_40 : decode cX12_bit 40 = .ok (.iload_n 3, 1) := by decide +kernel
theorem dX12_bit_41 : decode cX12_bit 41 = .ok (.invokevirtual 121, 3) := by decide +kernel
theorem dX12_bit_44 : decode cX12_bit 44 = .ok (.aload_n 0, 1) := by decide +kernel
theorem dX12_bit_45 : decode cX12_bit 45 = .ok (.getfield 40, 3) := by decide +kernel
theorem dX12_bit_48 : decode cX12_bit 48 = .ok (.iload_n 2, 1) := by decide +kernel
theorem dX12_bit_49 : decode cX12_bit 49 = .ok (.iaload, 1) := by decide +kernel
theorem dX12_bit_50 : decode cX12_bit 50 = .ok (.ireturn, 1) := by decide +kernel
set_option maxRecDepth 20000 in
theorem ggX12_tellsValue_X12_isNet : GoodIn wsX12_tellsValue wsX12_isNet := goodIn_r _ [5, 6, 7, 4, 8] (by decide +kernel) (by decide +kernel)
set_option maxRecDepth 20000 in
theorem gX12_tellsValue_X12_isNet : GoodIn wsX12_tellsValue (va_wsS RX12 81 yX12_isNet wsX12_isNet) := goodIn_app (goodIn_of _ (by decide +kernel)) ggX12_tellsValue_X12_isNet

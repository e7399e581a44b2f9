theorem dL_glitch_385 : decode cL_glitch 385 = .ok (.iconst 5, 1) := by decide +kernel
theorem dL_glitch_386 : decode cL_glitch 386 = .ok (.invokevirtual 46, 3) := by decide +kernel
theorem dL_glitch_389 : decode cL_glitch 389 = .ok (.iconst 3, 1) := by decide +kernel
theorem dL_glitch_390 : decode cL_glitch 390 = .ok (.if_icmp .ne 16, 3) := by decide +kernel
theorem dL_glitch_393 : decode cL_glitch 393 = .ok (.aload_n 0, 1) := by decide +kernel
theorem dL_glitch_394 : decode cL_glitch 394 = .ok (.iconst 3, 1) := by decide +kernel
theorem dL_glitch_395 : decode cL_glitch 395 = .ok (.invokevirtual 28, 3) := by decide +kernel
theorem dL_glitch_398 : decode cL_glitch 398 = .ok (.iconst 5, 1) := by decide +kernel
theorem dL_glitch_399 : decode cL_glitch 399 = .ok (.if_icmp .ne 7, 3) := by decide +kernel
theorem dL_glitch_402 : decode cL_glitch 402 = .ok (.iconst 1, 1) := by decide +kernel
theorem dL_glitch_403 : decode cL_glitch 403 = .ok (.goto 4, 3) := by decide +kernel
theorem dL_glitch_406 : decode cL_glitch 406 = .ok (.iconst 0, 1) := by decide +kernel
theorem dL_glitch_407 : decode cL_glitch 407 = .ok (.ireturn, 1) := by decide +kernel
theorem dL_digits_0 : decode cL_digits 0 = .ok (.iconst 0, 1) := by decide +kernel
theorem dL_digits_1 : decode cL_digits 1 = .ok (.istore_n 1, 1) := by decide +kernel
theorem dL_digits_2 : decode cL_digits 2 = .ok (.iconst 1, 1) := by decide +kernel
theorem dL_digits_3 : decode cL_digits 3 = .ok (.istore_n 2, 1) := by decide +kernel
theorem dL_digits_4 : decode cL_digits 4 = .ok (.iconst 0, 1) := by decide +kernel
theorem dL_digits_5 : decode cL_digits 5 = .ok (.istore_n 3, 1) := by decide +kernel
theorem dL_digits_6 : decode cL_digits 6 = .ok (.iload_n 3, 1) := by decide +kernel
theorem dL_digits_7 : decode cL_digits 7 = .ok (.bipush 16, 2) := by decide +kernel
theorem dL_digits_9 : decode cL_digits 9 = .ok (.if_icmp .ge 85, 3) := by decide +kernel
theorem dL_digits_12 : decode cL_digits 12 = .ok (.aload_n 0, 1) := by decide +kernel
theorem dL_digits_13 : decode cL_digits 13 = .ok (.iconst 0, 1) := by decide +kernel
theorem dL_digits_14 : decode cL_digits 14 = .ok (.iload_n 3, 1) := by decide +kernel
theorem dL_digits_15 : decode cL_digits 15 = .ok (.invokevirtual 70, 3) := by decide +kernel
theorem dL_digits_18 : decode cL_digits 18 = .ok (.ifCond .ne 32, 3) := by decide +kernel
theorem dL_digits_21 : decode cL_digits 21 = .ok (.aload_n 0, 1) := by decide +kernel
theorem dL_digits_22 : decode cL_digits 22 = .ok (.ldc 82, 2) := by decide +kernel
theorem dL_digits_24 : decode cL_digits 24 = .ok (.iload_n 3, 1) := by decide +kernel
theorem dL_digits_25 : decode cL_digits 25 = .ok (.invokevirtual 70, 3) := by decide +kernel
theorem dL_digits_28 : decode cL_digits 28 = .ok (.iload_n 3, 1) := by decide +kernel
theorem dL_digits_29 : decode cL_digits 29 = .ok (.ifCond .ne 7, 3) := by decide +kernel
theorem dL_digits_32 : decode cL_digits 32 = .ok (.iconst (-1), 1) := by decide +kernel
theorem dL_digits_33 : decode cL_digits 33 = .ok (.goto 14, 3) := by decide +kernel
theorem dL_digits_36 : decode cL_digits 36 = .ok (.iload_n 3, 1) := by decide +kernel
theorem dL_digits_37 : decode cL_digits 37 = .ok (.bipush 15, 2) := by decide +kernel
theorem dL_digits_39 : decode cL_digits 39 = .ok (.if_icmp .ne 7, 3) := by decide +kernel
theorem dL_digits_42 : decode cL_digits 42 = .ok (.iconst 2, 1) := by decide +kernel
theorem dL_digits_43 : decode cL_digits 43 = .ok (.goto 4, 3) := by decide +kernel
theorem dL_digits_46 : decode cL_digits 46 = .ok (.iconst 0, 1) := by decide +kernel
theorem dL_digits_47 : decode cL_digits 47 = .ok (.if_icmp .eq 5, 3) := by decide +kernel
theorem dL_digits_50 : decode cL_digits 50 = .ok (.iconst 0, 1) := by decide +kernel
theorem dL_digits_51 : decode cL_digits 51 = .ok (.ireturn, 1) := by decide +kernel
theorem dL_digits_52 : decode cL_digits 52 = .ok (.iload_n 1, 1) := by decide +kernel
theorem dL_digits_53 : decode cL_digits 53 = .ok (.iload_n 3, 1) := by decide +kernel
theorem dL_digits_54 : decode cL_digits 54 = .ok (.bipush 15, 2) := by decide +kernel
theorem dL_digits_56 : decode cL_digits 56 = .ok (.if_icmp .ge 15, 3) := by decide +kernel
theorem dL_digits_59 : decode cL_digits 59 = .ok (.aload_n 0, 1) := by decide +kernel
theorem dL_digits_60 : decode cL_digits 60 = .ok (.ldc 126, 2) := by decide +kernel
theorem dL_digits_62 : decode cL_digits 62 = .ok (.iload_n 3, 1) := by decide +kernel
theorem dL_digits_63 : decode cL_digits 63 = .ok (.invokevirtual 70, 3) := by decide +kernel
theorem dL_digits_66 : decode cL_digits 66 = .ok (.iload_n 2, 1) := by decide +kernel
theorem dL_digits_67 : decode cL_digits 67 = .ok (.imul, 1) := by decide +kernel
theorem dL_digits_68 : decode cL_digits 68 = .ok (.goto 4, 3) := by decide +kernel
theorem dL_digits_71 : decode cL_digits 71 = .ok (.iconst 0, 1) := by decide +kernel
theorem dL_digits_72 : decode cL_digits 72 = .ok (.iadd, 1) := by decide +kernel
theorem dL_digits_73 : decode cL_digits 73 = .ok (.istore_n 1, 1) := by decide +kernel
theorem dL_digits_74 : decode cL_digits 74 = .ok (.iload_n 2, 1) := by decide +kernel
theorem dL_digits_75 : decode cL_digits 75 = .ok (.iload_n 3, 1) := by decide +kernel
theorem dL_digits_76 : decode cL_digits 76 = .ok (.bipush 14, 2) := by decide +kernel
theorem dL_digits_78 : decode cL_digits 78 = .ok (.if_icmp .ge 7, 3) := by decide +kernel
theorem dL_digits_81 : decode cL_digits 81 = .ok (.iconst 4, 1) := by decide +kernel
theorem dL_digits_82 : decode cL_digits 82 = .ok (.goto 4, 3) := by decide +kernel
theorem dL_digits_85 : decode cL_digits 85 = .ok (.iconst 1, 1) := by decide +kernel
theorem dL_digits_86 : decode cL_digits 86 = .ok (.imul, 1) := by decide +kernel
theorem dL_digits_87 : decode cL_digits 87 = .ok (.istore_n 2, 1) := by decide +kernel
theorem dL_digits_88 : decode cL_digits 88 = .ok (.iinc 3 1, 3) := by decide +kernel
theorem dL_digits_91 : decode cL_digits 91 = .ok (.goto (-85), 3) := by decide +kernel
theorem dL_digits_94 : decode cL_digits 94 = .ok (.iload_n 1, 1) := by decide +kernel
theorem dL_digits_95 : decode cL_digits 95 = .ok (.ldc 126, 2) := by decide +kernel
theorem dL_digits_97 : decode cL_digits 97 = .ok (.if_icmp .ne 118, 3) := by decide +kernel
theorem dL_digits_100 : decode cL_digits 100 = .ok (.aload_n 0, 1) := by decide +kernel
theorem dL_digits_101 : decode cL_digits 101 = .ok (.bipush 27, 2) := by decide +kernel
theorem dL_digits_103 : decode cL_digits 103 = .ok (.iconst 0, 1) := by decide +kernel
theorem dL_digits_104 : decode cL_digits 104 = .ok (.invokevirtual 70, 3) := by decide +kernel
theorem dL_digits_107 : decode cL_digits 107 = .ok (.iconst (-1), 1) := by decide +kernel
theorem dL_digits_108 : decode cL_digits 108 = .ok (.if_icmp .ne 107, 3) := by decide +kernel
theorem dL_digits_111 : decode cL_digits 111 = .ok (.aload_n 0, 1) := by decide +kernel
theorem dL_digits_112 : decode cL_digits 112 = .ok (.bipush 27, 2) := by decide +kernel
theorem dL_digits_114 : decode cL_digits 114 = .ok (.iconst 1, 1) := by decide +kernel
theorem dL_digits_115 : decode cL_digits 115 = .ok (.invokevirtual 70, 3) := by decide +kernel
theorem dL_digits_118 : decode cL_digits 118 = .ok (.iconst (-1), 1) := by decide +kernel
theorem dL_digits_119 : decode cL_digits 119 = .ok (.if_icmp .ne 96, 3) := by decide +kernel
theorem dL_digits_122 : decode cL_digits 122 = .ok (.aload_n 0, 1) := by decide +kernel
theorem dL_digits_123 : decode cL_digits 123 = .ok (.bipush 27, 2) := by decide +kernel
theorem dL_digits_125 : decode cL_digits 125 = .ok (.iconst 2, 1) := by decide +kernel
theorem dL_digits_126 : decode cL_digits 126 = .ok (.invokevirtual 70, 3) := by decide +kernel
theorem dL_digits_129 : decode cL_digits 129 = .ok (.iconst 2, 1) := by decide +kernel
theorem dL_digits_130 : decode cL_digits 130 = .ok (.if_icmp .ne 85, 3) := by decide +kernel
theorem dL_digits_133 : decode cL_digits 133 = .ok (.aload_n 0, 1) := by decide +kernel
theorem dL_digits_134 : decode cL_digits 134 = .ok (.bipush 27, 2) := by decide +kernel
theorem dL_digits_136 : decode cL_digits 136 = .ok (.iconst 3, 1) := by decide +kernel
theorem dL_digits_137 : decode cL_digits 137 = .ok (.invokevirtual 70, 3) := by decide +kernel
theorem dL_digits_140 : decode cL_digits 140 = .ok (.ifCond .ne 75, 3) := by decide +kernel
theorem dL_digits_143 : decode cL_digits 143 = .ok (.aload_n 0, 1) := by decide +kernel
theorem dL_digits_144 : decode cL_digits 144 = .ok (.iconst 2, 1) := by decide +kernel
theorem dL_digits_145 : decode cL_digits 145 = .ok (.iconst 0, 1) := by decide +kernel
theorem dL_digits_146 : decode cL_digits 146 = .ok (.invokevirtual 70, 3) := by decide +kernel
theorem dL_digits_149 : decode cL_digits 149 = .ok (.bipush (-2), 2) := by decide +kernel
theorem dL_digits_151 : decode cL_digits 151 = .ok (.if_icmp .ne 64, 3) := by decide +kernel
theorem dL_digits_154 : decode cL_digits 154 = .ok (.aload_n 0, 1) := by decide +kernel
theorem dL_digits_155 : decode cL_digits 155 = .ok (.iconst 2, 1) := by decide +kernel
theorem dL_digits_156 : decode cL_digits 156 = .ok (.iconst 1, 1) := by decide +kernel
theorem dL_digits_157 : decode cL_digits 157 = .ok (.invokevirtual 70, 3) := by decide +kernel
theorem dL_digits_160 : decode cL_digits 160 = .ok (.iconst 1, 1) := by decide +kernel
theorem dL_digits_161 : decode cL_digits 161 = .ok (.if_icmp .ne 54, 3) := by decide +kernel
theorem dL_digits_164 : decode cL_digits 164 = .ok (.aload_n 0, 1) := by decide +kernel
theorem dL_digits_165 : decode cL_digits 165 = .ok (.iconst 1, 1) := by decide +kernel
theorem dL_digits_166 : decode cL_digits 166 = .ok (.iconst 0, 1) := by decide +kernel
theorem dL_digits_167 : decode cL_digits 167 = .ok (.invokevirtual 70, 3) := by decide +kernel
theorem dL_digits_170 : decode cL_digits 170 = .ok (.iconst 1, 1) := by decide +kernel
theorem dL_digits_171 : decode cL_digits 171 = .ok (.if_icmp .ne 44, 3) := by decide +kernel
theorem dL_digits_174 : decode cL_digits 174 = .ok (.aload_n 0, 1) := by decide +kernel
theorem dL_digits_175 : decode cL_digits 175 = .ok (.ldc 85, 2) := by decide +kernel
theorem dL_digits_177 : decode cL_digits 177 = .ok (.bipush 15, 2) := by decide +kernel
theorem dL_digits_179 : decode cL_digits 179 = .ok (.invokevirtual 70, 3) := by decide +kernel
theorem dL_digits_182 : decode cL_digits 182 = .ok (.iconst 1, 1) := by decide +kernel
theorem dL_digits_183 : decode cL_digits 183 = .ok (.if_icmp .ne 32, 3) := by decide +kernel
theorem dL_digits_186 : decode cL_digits 186 = .ok (.aload_n 0, 1) := by decide +kernel
theorem dL_digits_187 : decode cL_digits 187 = .ok (.ldc 127, 2) := by decide +kernel
theorem dL_digits_189 : decode cL_digits 189 = .ok (.bipush 15, 2) := by decide +kernel
theorem dL_digits_191 : decode cL_digits 191 = .ok (.invokevirtual 70, 3) := by decide +kernel
theorem dL_digits_194 : decode cL_digits 194 = .ok (.iconst 1, 1) := by decide +kernel
theorem dL_digits_195 : decode cL_digits 195 = .ok (.if_icmp .ne 20, 3) := by decide +kernel
theorem dL_digits_198 : decode cL_digits 198 = .ok (.aload_n 0, 1) := by decide +kernel
theorem dL_digits_199 : decode cL_digits 199 = .ok (.ldc 127, 2) := by decide +kernel
theorem dL_digits_201 : decode cL_digits 201 = .ok (.bipush 14, 2) := by decide +kernel
theorem dL_digits_203 : decode cL_digits 203 = .ok (.invokevirtual 70, 3) := by decide +kernel
theorem dL_digits_206 : decode cL_digits 206 = .ok (.bipush (-2), 2) := by decide +kernel
theorem dL_digits_208 : decode cL_digits 208 = .ok (.if_icmp .ne 7, 3) := by decide +kernel
theorem dL_digits_211 : decode cL_digits 211 = .ok (.iconst 1, 1) := by decide +kernel
theorem dL_digits_212 : decode cL_digits 212 = .ok (.goto 4, 3) := by decide +kernel
theorem dL_digits_215 : decode cL_digits 215 = .ok (.iconst 0, 1) := by decide +kernel
theorem dL_digits_216 : decode cL_digits 216 = .ok (.ireturn, 1) := by decide +kernel
theorem dL_most_0 : decode cL_most 0 = .ok (.new 8, 3) := by decide +kernel
theorem dL_most_3 : decode cL_most 3 = .ok (.dup, 1) := by decide +kernel
theorem dL_most_4 : decode cL_most 4 = .ok (.invokespecial 92, 3) := by decide +kernel
theorem dL_most_7 : decode cL_most 7 = .ok (.astore_n 0, 1) := by decide +kernel
theorem dL_most_8 : decode cL_most 8 = .ok (.iconst 0, 1) := by decide +kernel
theorem dL_most_9 : decode cL_most 9 = .ok (.istore_n 1, 1) := by decide +kernel
theorem dL_most_10 : decode cL_most 10 = .ok (.iload_n 1, 1) := by decide +kernel
theorem dL_most_11 : decode cL_most 11 = .ok (.bipush 31, 2) := by decide +kernel
theorem dL_most_13 : decode cL_most 13 = .ok (.if_icmp .ge 35, 3) := by decide +kernel
theorem dL_most_16 : decode cL_most 16 = .ok (.aload_n 0, 1) := by decide +kernel
theorem dL_most_17 : decode cL_most 17 = .ok (.iconst 0, 1) := by decide +kernel
theorem dL_most_18 : decode cL_most 18 = .ok (.iconst 1, 1) := by decide +kernel
theorem dL_most_19 : decode cL_most 19 = .ok (.iconst 0, 1) := by decide +kernel
theorem dL_most_20 : decode cL_most 20 = .ok (.iconst 0, 1) := by decide +kernel
theorem dL_most_21 : decode cL_most 21 = .ok (.iconst 0, 1) := by decide +kernel
theorem dL_most_22 : decode cL_most 22 = .ok (.invokestatic 86, 3) := by decide +kernel
theorem dL_most_25 : decode cL_most 25 = .ok (.iload_n 1, 1) := by decide +kernel
theorem dL_most_26 : decode cL_most 26 = .ok (.bipush 30, 2) := by decide +kernel
theorem dL_most_28 : decode cL_most 28 = .ok (.if_icmp .ge 7, 3) := by decide +kernel
theorem dL_most_31 : decode cL_most 31 = .ok (.iload_n 1, 1) := by decide +kernel
theorem dL_most_32 : decode cL_most 32 = .ok (.goto 5, 3) := by decide +kernel
theorem dL_most_35 : decode cL_most 35 = .ok (.ldc 81, 2) := by decide +kernel
theorem dL_most_37 : decode cL_most 37 = .ok (.if_icmp .eq 5, 3) := by decide +kernel
theorem dL_most_40 : decode cL_most 40 = .ok (.iconst 0, 1) := by decide +kernel
theorem dL_most_41 : decode cL_most 41 = .ok (.ireturn, 1) := by decide +kernel
theorem dL_most_42 : decode cL_most 42 = .ok (.iinc 1 1, 3) := by decide +kernel
theorem dL_most_45 : decode cL_most 45 = .ok (.goto (-35), 3) := by decide +kernel
theorem dL_most_48 : decode cL_most 48 = .ok (.bipush 30, 2) := by decide +kernel
theorem dL_most_50 : decode cL_most 50 = .ok (.istore_n 1, 1) := by decide +kernel
theorem dL_most_51 : decode cL_most 51 = .ok (.iload_n 1, 1) := by decide +kernel
theorem dL_most_52 : decode cL_most 52 = .ok (.bipush 121, 2) := by decide +kernel
theorem dL_most_54 : decode cL_most 54 = .ok (.if_icmp .ge 58, 3) := by decide +kernel
theorem dL_most_57 : decode cL_most 57 = .ok (.aload_n 0, 1) := by decide +kernel
theorem dL_most_58 : decode cL_most 58 = .ok (.iconst 1, 1) := by decide +kernel
theorem dL_most_59 : decode cL_most 59 = .ok (.iconst 1, 1) := by decide +kernel
theorem dL_most_60 : decode cL_most 60 = .ok (.iload_n 1, 1) := by decide +kernel
theorem dL_most_61 : decode cL_most 61 = .ok (.bipush 30, 2) := by decide +kernel
theorem dL_most_63 : decode cL_most 63 = .ok (.if_icmp .ne 7, 3) := by decide +kernel
theorem dL_most_66 : decode cL_most 66 = .ok (.iconst 1, 1) := by decide +kernel
theorem dL_most_67 : decode cL_most 67 = .ok (.goto 4, 3) := by decide +kernel
theorem dL_most_70 : decode cL_most 70 = .ok (.iconst 3, 1) := by decide +kernel
theorem dL_most_71 : decode cL_most 71 = .ok (.iload_n 1, 1) := by decide +kernel
theorem dL_most_72 : decode cL_most 72 = .ok (.bipush 30, 2) := by decide +kernel
theorem dL_most_74 : decode cL_most 74 = .ok (.if_icmp .ne 7, 3) := by decide +kernel
theorem dL_most_77 : decode cL_most 77 = .ok (.iconst 0, 1) := by decide +kernel
theorem dL_most_78 : decode cL_most 78 = .ok (.goto 6, 3) := by decide +kernel
theorem dL_most_81 : decode cL_most 81 = .ok (.iload_n 1, 1) := by decide +kernel
theorem dL_most_82 : decode cL_most 82 = .ok (.iconst 1, 1) := by decide +kernel
theorem dL_most_83 : decode cL_most 83 = .ok (.isub, 1) := by decide +kernel
theorem dL_most_84 : decode cL_most 84 = .ok (.bipush 29, 2) := by decide +kernel
theorem dL_most_86 : decode cL_most 86 = .ok (.invokestatic 86, 3) := by decide +kernel
theorem dL_most_89 : decode cL_most 89 = .ok (.iload_n 1, 1) := by decide +kernel
theorem dL_most_90 : decode cL_most 90 = .ok (.bipush 120, 2) := by decide +kernel
theorem dL_most_92 : decode cL_most 92 = .ok (.if_icmp .ge 7, 3) := by decide +kernel
theorem dL_most_95 : decode cL_most 95 = .ok (.iload_n 1, 1) := by decide +kernel
theorem dL_most_96 : decode cL_most 96 = .ok (.goto 5, 3) := by decide +kernel
theorem dL_most_99 : decode cL_most 99 = .ok (.ldc 81, 2) := by decide +kernel
theorem dL_most_101 : decode cL_most 101 = .ok (.if_icmp .eq 5, 3) := by decide +kernel
theorem dL_most_104 : decode cL_most 104 = .ok (.iconst 0, 1) := by decide +kernel
theorem dL_most_105 : decode cL_most 105 = .ok (.ireturn, 1) := by decide +kernel
theorem dL_most_106 : decode cL_most 106 = .ok (.iinc 1 1, 3) := by decide +kernel
theorem dL_most_109 : decode cL_most 109 = .ok (.goto (-58), 3) := by decide +kernel
theorem dL_most_112 : decode cL_most 112 = .ok (.iconst 0, 1) := by decide +kernel
theorem dL_most_113 : decode cL_most 113 = .ok (.istore_n 1, 1) := by decide +kernel
theorem dL_most_114 : decode cL_most 114 = .ok (.iload_n 1, 1) := by decide +kernel
theorem dL_most_115 : decode cL_most 115 = .ok (.bipush 17, 2) := by decide +kernel
theorem dL_most_117 : decode cL_most 117 = .ok (.if_icmp .ge 38, 3) := by decide +kernel
theorem dL_most_120 : decode cL_most 120 = .ok (.aload_n 0, 1) := by decide +kernel
theorem dL_most_121 : decode cL_most 121 = .ok (.iconst 2, 1) := by decide +kernel
theorem dL_most_122 : decode cL_most 122 = .ok (.iconst 1, 1) := by decide +kernel
theorem dL_most_123 : decode cL_most 123 = .ok (.bipush 119, 2) := by decide +kernel
theorem dL_most_125 : decode cL_most 125 = .ok (.iload_n 1, 1) := by decide +kernel
theorem dL_most_126 : decode cL_most 126 = .ok (.isub, 1) := by decide +kernel
theorem dL_most_127 : decode cL_most 127 = .ok (.iconst 0, 1) := by decide +kernel
theorem dL_most_128 : decode cL_most 128 = .ok (.iconst 0, 1) := by decide +kernel
theorem dL_most_129 : decode cL_most 129 = .ok (.invokestatic 86, 3) := by decide +kernel
theorem dL_most_132 : decode cL_most 132 = .ok (.iload_n 1, 1) := by decide +kernel
theorem dL_most_133 : decode cL_most 133 = .ok (.bipush 16, 2) := by decide +kernel
theorem dL_most_135 : decode cL_most 135 = .ok (.if_icmp .ge 7, 3) := by decide +kernel
theorem dL_most_138 : decode cL_most 138 = .ok (.iload_n 1, 1) := by decide +kernel
theorem dL_most_139 : decode cL_most 139 = .ok (.goto 5, 3) := by decide +kernel
theorem dL_most_142 : decode cL_most 142 = .ok (.ldc 81, 2) := by decide +kernel
theorem dL_most_144 : decode cL_most 144 = .ok (.if_icmp .eq 5, 3) := by decide +kernel
theorem dL_most_147 : decode cL_most 147 = .ok (.iconst 0, 1) := by decide +kernel
theorem dL_most_148 : decode cL_most 148 = .ok (.ireturn, 1) := by decide +kernel
theorem dL_most_149 : decode cL_most 149 = .ok (.iinc 1 1, 3) := by decide +kernel
theorem dL_most_152 : decode cL_most 152 = .ok (.goto (-38), 3) := by decide +kernel
theorem dL_most_155 : decode cL_most 155 = .ok (.aload_n 0, 1) := by decide +kernel
theorem dL_most_156 : decode cL_most 156 = .ok (.iconst 0, 1) := by decide +kernel
theorem dL_most_157 : decode cL_most 157 = .ok (.iconst 1, 1) := by decide +kernel
theorem dL_most_158 : decode cL_most 158 = .ok (.iconst 0, 1) := by decide +kernel
theorem dL_most_159 : decode cL_most 159 = .ok (.iconst 0, 1) := by decide +kernel
theorem dL_most_160 : decode cL_most 160 = .ok (.iconst 0, 1) := by decide +kernel
theorem dL_most_161 : decode cL_most 161 = .ok (.invokestatic 86, 3) := by decide +kernel
theorem dL_most_164 : decode cL_most 164 = .ok (.ldc 81, 2) := by decide +kernel

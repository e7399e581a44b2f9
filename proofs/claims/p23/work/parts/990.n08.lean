theorem dL_adders_924 : decode cL_adders 924 = .ok (.iconst 1, 1) := by decide +kernel
theorem dL_adders_925 : decode cL_adders 925 = .ok (.bipush 6, 2) := by decide +kernel
theorem dL_adders_927 : decode cL_adders 927 = .ok (.invokevirtual 21, 3) := by decide +kernel
theorem dL_adders_930 : decode cL_adders 930 = .ok (.bipush 50, 2) := by decide +kernel
theorem dL_adders_932 : decode cL_adders 932 = .ok (.if_icmp .ne 47, 3) := by decide +kernel
theorem dL_adders_935 : decode cL_adders 935 = .ok (.aload_n 0, 1) := by decide +kernel
theorem dL_adders_936 : decode cL_adders 936 = .ok (.iconst 3, 1) := by decide +kernel
theorem dL_adders_937 : decode cL_adders 937 = .ok (.iconst 0, 1) := by decide +kernel
theorem dL_adders_938 : decode cL_adders 938 = .ok (.iconst 0, 1) := by decide +kernel
theorem dL_adders_939 : decode cL_adders 939 = .ok (.iconst 0, 1) := by decide +kernel
theorem dL_adders_940 : decode cL_adders 940 = .ok (.iconst 0, 1) := by decide +kernel
theorem dL_adders_941 : decode cL_adders 941 = .ok (.iconst (-1), 1) := by decide +kernel
theorem dL_adders_942 : decode cL_adders 942 = .ok (.invokestatic 111, 3) := by decide +kernel
theorem dL_adders_945 : decode cL_adders 945 = .ok (.ifCond .eq 34, 3) := by decide +kernel
theorem dL_adders_948 : decode cL_adders 948 = .ok (.aload_n 0, 1) := by decide +kernel
theorem dL_adders_949 : decode cL_adders 949 = .ok (.invokestatic 113, 3) := by decide +kernel
theorem dL_adders_952 : decode cL_adders 952 = .ok (.ifCond .eq 27, 3) := by decide +kernel
theorem dL_adders_955 : decode cL_adders 955 = .ok (.aload_n 0, 1) := by decide +kernel
theorem dL_adders_956 : decode cL_adders 956 = .ok (.invokestatic 116, 3) := by decide +kernel
theorem dL_adders_959 : decode cL_adders 959 = .ok (.ifCond .eq 20, 3) := by decide +kernel
theorem dL_adders_962 : decode cL_adders 962 = .ok (.aload_n 0, 1) := by decide +kernel
theorem dL_adders_963 : decode cL_adders 963 = .ok (.invokestatic 119, 3) := by decide +kernel
theorem dL_adders_966 : decode cL_adders 966 = .ok (.ifCond .eq 13, 3) := by decide +kernel
theorem dL_adders_969 : decode cL_adders 969 = .ok (.invokestatic 122, 3) := by decide +kernel
theorem dL_adders_972 : decode cL_adders 972 = .ok (.ifCond .eq 7, 3) := by decide +kernel
theorem dL_adders_975 : decode cL_adders 975 = .ok (.iconst 1, 1) := by decide +kernel
theorem dL_adders_976 : decode cL_adders 976 = .ok (.goto 4, 3) := by decide +kernel
theorem dL_adders_979 : decode cL_adders 979 = .ok (.iconst 0, 1) := by decide +kernel
theorem dL_adders_980 : decode cL_adders 980 = .ok (.ireturn, 1) := by decide +kernel
theorem dL_multipliers_0 : decode cL_multipliers 0 = .ok (.aload_n 0, 1) := by decide +kernel
theorem dL_multipliers_1 : decode cL_multipliers 1 = .ok (.iconst 3, 1) := by decide +kernel
theorem dL_multipliers_2 : decode cL_multipliers 2 = .ok (.invokevirtual 28, 3) := by decide +kernel
theorem dL_multipliers_5 : decode cL_multipliers 5 = .ok (.bipush 50, 2) := by decide +kernel
theorem dL_multipliers_7 : decode cL_multipliers 7 = .ok (.if_icmp .ne 318, 3) := by decide +kernel
theorem dL_multipliers_10 : decode cL_multipliers 10 = .ok (.aload_n 0, 1) := by decide +kernel
theorem dL_multipliers_11 : decode cL_multipliers 11 = .ok (.iconst 3, 1) := by decide +kernel
theorem dL_multipliers_12 : decode cL_multipliers 12 = .ok (.iconst 2, 1) := by decide +kernel
theorem dL_multipliers_13 : decode cL_multipliers 13 = .ok (.invokevirtual 25, 3) := by decide +kernel
theorem dL_multipliers_16 : decode cL_multipliers 16 = .ok (.bipush 12, 2) := by decide +kernel
theorem dL_multipliers_18 : decode cL_multipliers 18 = .ok (.if_icmp .ne 307, 3) := by decide +kernel
theorem dL_multipliers_21 : decode cL_multipliers 21 = .ok (.aload_n 0, 1) := by decide +kernel
theorem dL_multipliers_22 : decode cL_multipliers 22 = .ok (.iconst 3, 1) := by decide +kernel
theorem dL_multipliers_23 : decode cL_multipliers 23 = .ok (.bipush 12, 2) := by decide +kernel
theorem dL_multipliers_25 : decode cL_multipliers 25 = .ok (.iconst 4, 1) := by decide +kernel
theorem dL_multipliers_26 : decode cL_multipliers 26 = .ok (.iconst 4, 1) := by decide +kernel
theorem dL_multipliers_27 : decode cL_multipliers 27 = .ok (.bipush 8, 2) := by decide +kernel
theorem dL_multipliers_29 : decode cL_multipliers 29 = .ok (.iconst 3, 1) := by decide +kernel
theorem dL_multipliers_30 : decode cL_multipliers 30 = .ok (.iconst 0, 1) := by decide +kernel
theorem dL_multipliers_31 : decode cL_multipliers 31 = .ok (.invokestatic 97, 3) := by decide +kernel
theorem dL_multipliers_34 : decode cL_multipliers 34 = .ok (.ifCond .eq 291, 3) := by decide +kernel
theorem dL_multipliers_37 : decode cL_multipliers 37 = .ok (.aload_n 0, 1) := by decide +kernel
theorem dL_multipliers_38 : decode cL_multipliers 38 = .ok (.iconst 3, 1) := by decide +kernel
theorem dL_multipliers_39 : decode cL_multipliers 39 = .ok (.iconst 5, 1) := by decide +kernel
theorem dL_multipliers_40 : decode cL_multipliers 40 = .ok (.invokevirtual 46, 3) := by decide +kernel
theorem dL_multipliers_43 : decode cL_multipliers 43 = .ok (.iconst 2, 1) := by decide +kernel
theorem dL_multipliers_44 : decode cL_multipliers 44 = .ok (.if_icmp .ne 281, 3) := by decide +kernel
theorem dL_multipliers_47 : decode cL_multipliers 47 = .ok (.aload_n 0, 1) := by decide +kernel
theorem dL_multipliers_48 : decode cL_multipliers 48 = .ok (.iconst 3, 1) := by decide +kernel
theorem dL_multipliers_49 : decode cL_multipliers 49 = .ok (.bipush 15, 2) := by decide +kernel
theorem dL_multipliers_51 : decode cL_multipliers 51 = .ok (.bipush 9, 2) := by decide +kernel
theorem dL_multipliers_53 : decode cL_multipliers 53 = .ok (.invokestatic 102, 3) := by decide +kernel
theorem dL_multipliers_56 : decode cL_multipliers 56 = .ok (.ifCond .eq 269, 3) := by decide +kernel
theorem dL_multipliers_59 : decode cL_multipliers 59 = .ok (.aload_n 0, 1) := by decide +kernel
theorem dL_multipliers_60 : decode cL_multipliers 60 = .ok (.iconst 3, 1) := by decide +kernel
theorem dL_multipliers_61 : decode cL_multipliers 61 = .ok (.bipush 6, 2) := by decide +kernel
theorem dL_multipliers_63 : decode cL_multipliers 63 = .ok (.iconst 2, 1) := by decide +kernel
theorem dL_multipliers_64 : decode cL_multipliers 64 = .ok (.invokestatic 102, 3) := by decide +kernel
theorem dL_multipliers_67 : decode cL_multipliers 67 = .ok (.ifCond .eq 258, 3) := by decide +kernel
theorem dL_multipliers_70 : decode cL_multipliers 70 = .ok (.aload_n 0, 1) := by decide +kernel
theorem dL_multipliers_71 : decode cL_multipliers 71 = .ok (.iconst 3, 1) := by decide +kernel
theorem dL_multipliers_72 : decode cL_multipliers 72 = .ok (.bipush 10, 2) := by decide +kernel
theorem dL_multipliers_74 : decode cL_multipliers 74 = .ok (.bipush 9, 2) := by decide +kernel
theorem dL_multipliers_76 : decode cL_multipliers 76 = .ok (.iconst 5, 1) := by decide +kernel
theorem dL_multipliers_77 : decode cL_multipliers 77 = .ok (.iconst 1, 1) := by decide +kernel
theorem dL_multipliers_78 : decode cL_multipliers 78 = .ok (.iconst (-1), 1) := by decide +kernel
theorem dL_multipliers_79 : decode cL_multipliers 79 = .ok (.invokestatic 105, 3) := by decide +kernel
theorem dL_multipliers_82 : decode cL_multipliers 82 = .ok (.ifCond .eq 243, 3) := by decide +kernel
theorem dL_multipliers_85 : decode cL_multipliers 85 = .ok (.aload_n 0, 1) := by decide +kernel
theorem dL_multipliers_86 : decode cL_multipliers 86 = .ok (.iconst 3, 1) := by decide +kernel
theorem dL_multipliers_87 : decode cL_multipliers 87 = .ok (.bipush 11, 2) := by decide +kernel
theorem dL_multipliers_89 : decode cL_multipliers 89 = .ok (.invokevirtual 49, 3) := by decide +kernel
theorem dL_multipliers_92 : decode cL_multipliers 92 = .ok (.iconst 3, 1) := by decide +kernel
theorem dL_multipliers_93 : decode cL_multipliers 93 = .ok (.if_icmp .ne 232, 3) := by decide +kernel
theorem dL_multipliers_96 : decode cL_multipliers 96 = .ok (.aload_n 0, 1) := by decide +kernel
theorem dL_multipliers_97 : decode cL_multipliers 97 = .ok (.iconst 3, 1) := by decide +kernel
theorem dL_multipliers_98 : decode cL_multipliers 98 = .ok (.iconst 1, 1) := by decide +kernel
theorem dL_multipliers_99 : decode cL_multipliers 99 = .ok (.iconst 0, 1) := by decide +kernel
theorem dL_multipliers_100 : decode cL_multipliers 100 = .ok (.iconst 0, 1) := by decide +kernel
theorem dL_multipliers_101 : decode cL_multipliers 101 = .ok (.iconst 0, 1) := by decide +kernel
theorem dL_multipliers_102 : decode cL_multipliers 102 = .ok (.iconst (-1), 1) := by decide +kernel
theorem dL_multipliers_103 : decode cL_multipliers 103 = .ok (.invokestatic 111, 3) := by decide +kernel
theorem dL_multipliers_106 : decode cL_multipliers 106 = .ok (.ifCond .eq 219, 3) := by decide +kernel
theorem dL_multipliers_109 : decode cL_multipliers 109 = .ok (.aload_n 0, 1) := by decide +kernel
theorem dL_multipliers_110 : decode cL_multipliers 110 = .ok (.iconst 3, 1) := by decide +kernel
theorem dL_multipliers_111 : decode cL_multipliers 111 = .ok (.iconst 0, 1) := by decide +kernel
theorem dL_multipliers_112 : decode cL_multipliers 112 = .ok (.bipush 14, 2) := by decide +kernel
theorem dL_multipliers_114 : decode cL_multipliers 114 = .ok (.iconst 3, 1) := by decide +kernel
theorem dL_multipliers_115 : decode cL_multipliers 115 = .ok (.bipush 22, 2) := by decide +kernel
theorem dL_multipliers_117 : decode cL_multipliers 117 = .ok (.iconst 1, 1) := by decide +kernel
theorem dL_multipliers_118 : decode cL_multipliers 118 = .ok (.invokestatic 111, 3) := by decide +kernel
theorem dL_multipliers_121 : decode cL_multipliers 121 = .ok (.ifCond .eq 204, 3) := by decide +kernel
theorem dL_multipliers_124 : decode cL_multipliers 124 = .ok (.aload_n 0, 1) := by decide +kernel
theorem dL_multipliers_125 : decode cL_multipliers 125 = .ok (.iconst 0, 1) := by decide +kernel
theorem dL_multipliers_126 : decode cL_multipliers 126 = .ok (.iconst 3, 1) := by decide +kernel
theorem dL_multipliers_127 : decode cL_multipliers 127 = .ok (.invokevirtual 67, 3) := by decide +kernel
theorem dL_multipliers_130 : decode cL_multipliers 130 = .ok (.iconst 1, 1) := by decide +kernel
theorem dL_multipliers_131 : decode cL_multipliers 131 = .ok (.if_icmp .ne 194, 3) := by decide +kernel
theorem dL_multipliers_134 : decode cL_multipliers 134 = .ok (.aload_n 0, 1) := by decide +kernel
theorem dL_multipliers_135 : decode cL_multipliers 135 = .ok (.iconst 3, 1) := by decide +kernel
theorem dL_multipliers_136 : decode cL_multipliers 136 = .ok (.invokevirtual 28, 3) := by decide +kernel
theorem dL_multipliers_139 : decode cL_multipliers 139 = .ok (.bipush 12, 2) := by decide +kernel
theorem dL_multipliers_141 : decode cL_multipliers 141 = .ok (.if_icmp .ne 184, 3) := by decide +kernel
theorem dL_multipliers_144 : decode cL_multipliers 144 = .ok (.aload_n 0, 1) := by decide +kernel
theorem dL_multipliers_145 : decode cL_multipliers 145 = .ok (.iconst 3, 1) := by decide +kernel
theorem dL_multipliers_146 : decode cL_multipliers 146 = .ok (.iconst 1, 1) := by decide +kernel
theorem dL_multipliers_147 : decode cL_multipliers 147 = .ok (.invokevirtual 25, 3) := by decide +kernel
theorem dL_multipliers_150 : decode cL_multipliers 150 = .ok (.iconst 3, 1) := by decide +kernel
theorem dL_multipliers_151 : decode cL_multipliers 151 = .ok (.if_icmp .ne 174, 3) := by decide +kernel
theorem dL_multipliers_154 : decode cL_multipliers 154 = .ok (.aload_n 0, 1) := by decide +kernel
theorem dL_multipliers_155 : decode cL_multipliers 155 = .ok (.iconst 3, 1) := by decide +kernel
theorem dL_multipliers_156 : decode cL_multipliers 156 = .ok (.iconst 3, 1) := by decide +kernel
theorem dL_multipliers_157 : decode cL_multipliers 157 = .ok (.iconst 2, 1) := by decide +kernel
theorem dL_multipliers_158 : decode cL_multipliers 158 = .ok (.iconst 1, 1) := by decide +kernel
theorem dL_multipliers_159 : decode cL_multipliers 159 = .ok (.iconst 1, 1) := by decide +kernel
theorem dL_multipliers_160 : decode cL_multipliers 160 = .ok (.iconst 1, 1) := by decide +kernel
theorem dL_multipliers_161 : decode cL_multipliers 161 = .ok (.iconst 0, 1) := by decide +kernel
theorem dL_multipliers_162 : decode cL_multipliers 162 = .ok (.invokestatic 97, 3) := by decide +kernel
theorem dL_multipliers_165 : decode cL_multipliers 165 = .ok (.ifCond .eq 160, 3) := by decide +kernel
theorem dL_multipliers_168 : decode cL_multipliers 168 = .ok (.aload_n 0, 1) := by decide +kernel
theorem dL_multipliers_169 : decode cL_multipliers 169 = .ok (.iconst 3, 1) := by decide +kernel
theorem dL_multipliers_170 : decode cL_multipliers 170 = .ok (.iconst 3, 1) := by decide +kernel
theorem dL_multipliers_171 : decode cL_multipliers 171 = .ok (.iconst 1, 1) := by decide +kernel
theorem dL_multipliers_172 : decode cL_multipliers 172 = .ok (.invokestatic 102, 3) := by decide +kernel
theorem dL_multipliers_175 : decode cL_multipliers 175 = .ok (.ifCond .eq 150, 3) := by decide +kernel
theorem dL_multipliers_178 : decode cL_multipliers 178 = .ok (.aload_n 0, 1) := by decide +kernel
theorem dL_multipliers_179 : decode cL_multipliers 179 = .ok (.iconst 3, 1) := by decide +kernel
theorem dL_multipliers_180 : decode cL_multipliers 180 = .ok (.iconst 2, 1) := by decide +kernel
theorem dL_multipliers_181 : decode cL_multipliers 181 = .ok (.iconst 0, 1) := by decide +kernel
theorem dL_multipliers_182 : decode cL_multipliers 182 = .ok (.invokestatic 102, 3) := by decide +kernel
theorem dL_multipliers_185 : decode cL_multipliers 185 = .ok (.ifCond .eq 140, 3) := by decide +kernel
theorem dL_multipliers_188 : decode cL_multipliers 188 = .ok (.aload_n 0, 1) := by decide +kernel
theorem dL_multipliers_189 : decode cL_multipliers 189 = .ok (.iconst 3, 1) := by decide +kernel
theorem dL_multipliers_190 : decode cL_multipliers 190 = .ok (.invokevirtual 28, 3) := by decide +kernel
theorem dL_multipliers_193 : decode cL_multipliers 193 = .ok (.iconst 3, 1) := by decide +kernel
theorem dL_multipliers_194 : decode cL_multipliers 194 = .ok (.if_icmp .ne 131, 3) := by decide +kernel
theorem dL_multipliers_197 : decode cL_multipliers 197 = .ok (.aload_n 0, 1) := by decide +kernel
theorem dL_multipliers_198 : decode cL_multipliers 198 = .ok (.iconst 3, 1) := by decide +kernel
theorem dL_multipliers_199 : decode cL_multipliers 199 = .ok (.iconst 3, 1) := by decide +kernel
theorem dL_multipliers_200 : decode cL_multipliers 200 = .ok (.invokevirtual 25, 3) := by decide +kernel
theorem dL_multipliers_203 : decode cL_multipliers 203 = .ok (.bipush 36, 2) := by decide +kernel
theorem dL_multipliers_205 : decode cL_multipliers 205 = .ok (.if_icmp .ne 120, 3) := by decide +kernel
theorem dL_multipliers_208 : decode cL_multipliers 208 = .ok (.aload_n 0, 1) := by decide +kernel
theorem dL_multipliers_209 : decode cL_multipliers 209 = .ok (.iconst 3, 1) := by decide +kernel
theorem dL_multipliers_210 : decode cL_multipliers 210 = .ok (.bipush 36, 2) := by decide +kernel
theorem dL_multipliers_212 : decode cL_multipliers 212 = .ok (.bipush 6, 2) := by decide +kernel
theorem dL_multipliers_214 : decode cL_multipliers 214 = .ok (.bipush 6, 2) := by decide +kernel
theorem dL_multipliers_216 : decode cL_multipliers 216 = .ok (.bipush 30, 2) := by decide +kernel
theorem dL_multipliers_218 : decode cL_multipliers 218 = .ok (.bipush 10, 2) := by decide +kernel
theorem dL_multipliers_220 : decode cL_multipliers 220 = .ok (.iconst 0, 1) := by decide +kernel
theorem dL_multipliers_221 : decode cL_multipliers 221 = .ok (.invokestatic 97, 3) := by decide +kernel
theorem dL_multipliers_224 : decode cL_multipliers 224 = .ok (.ifCond .eq 101, 3) := by decide +kernel
theorem dL_multipliers_227 : decode cL_multipliers 227 = .ok (.aload_n 0, 1) := by decide +kernel
theorem dL_multipliers_228 : decode cL_multipliers 228 = .ok (.iconst 3, 1) := by decide +kernel
theorem dL_multipliers_229 : decode cL_multipliers 229 = .ok (.iconst 1, 1) := by decide +kernel
theorem dL_multipliers_230 : decode cL_multipliers 230 = .ok (.iconst 0, 1) := by decide +kernel
theorem dL_multipliers_231 : decode cL_multipliers 231 = .ok (.iconst 0, 1) := by decide +kernel
theorem dL_multipliers_232 : decode cL_multipliers 232 = .ok (.iconst 0, 1) := by decide +kernel
theorem dL_multipliers_233 : decode cL_multipliers 233 = .ok (.iconst (-1), 1) := by decide +kernel
theorem dL_multipliers_234 : decode cL_multipliers 234 = .ok (.invokestatic 111, 3) := by decide +kernel
theorem dL_multipliers_237 : decode cL_multipliers 237 = .ok (.ifCond .eq 88, 3) := by decide +kernel
theorem dL_multipliers_240 : decode cL_multipliers 240 = .ok (.aload_n 0, 1) := by decide +kernel
theorem dL_multipliers_241 : decode cL_multipliers 241 = .ok (.iconst 3, 1) := by decide +kernel
theorem dL_multipliers_242 : decode cL_multipliers 242 = .ok (.invokevirtual 28, 3) := by decide +kernel
theorem dL_multipliers_245 : decode cL_multipliers 245 = .ok (.bipush 36, 2) := by decide +kernel
theorem dL_multipliers_247 : decode cL_multipliers 247 = .ok (.if_icmp .ne 78, 3) := by decide +kernel
theorem dL_multipliers_250 : decode cL_multipliers 250 = .ok (.aload_n 0, 1) := by decide +kernel
theorem dL_multipliers_251 : decode cL_multipliers 251 = .ok (.iconst 3, 1) := by decide +kernel
theorem dL_multipliers_252 : decode cL_multipliers 252 = .ok (.iconst 4, 1) := by decide +kernel
theorem dL_multipliers_253 : decode cL_multipliers 253 = .ok (.invokevirtual 25, 3) := by decide +kernel
theorem dL_multipliers_256 : decode cL_multipliers 256 = .ok (.bipush 72, 2) := by decide +kernel
theorem dL_multipliers_258 : decode cL_multipliers 258 = .ok (.if_icmp .ne 67, 3) := by decide +kernel
theorem dL_multipliers_261 : decode cL_multipliers 261 = .ok (.aload_n 0, 1) := by decide +kernel
theorem dL_multipliers_262 : decode cL_multipliers 262 = .ok (.iconst 3, 1) := by decide +kernel
theorem dL_multipliers_263 : decode cL_multipliers 263 = .ok (.iconst 1, 1) := by decide +kernel
theorem dL_multipliers_264 : decode cL_multipliers 264 = .ok (.iconst 0, 1) := by decide +kernel
theorem dL_multipliers_265 : decode cL_multipliers 265 = .ok (.iconst 0, 1) := by decide +kernel
theorem dL_multipliers_266 : decode cL_multipliers 266 = .ok (.iconst 0, 1) := by decide +kernel
theorem dL_multipliers_267 : decode cL_multipliers 267 = .ok (.iconst (-1), 1) := by decide +kernel
theorem dL_multipliers_268 : decode cL_multipliers 268 = .ok (.invokestatic 111, 3) := by decide +kernel
theorem dL_multipliers_271 : decode cL_multipliers 271 = .ok (.ifCond .eq 54, 3) := by decide +kernel
theorem dL_multipliers_274 : decode cL_multipliers 274 = .ok (.aload_n 0, 1) := by decide +kernel
theorem dL_multipliers_275 : decode cL_multipliers 275 = .ok (.iconst 3, 1) := by decide +kernel
theorem dL_multipliers_276 : decode cL_multipliers 276 = .ok (.sipush 255, 3) := by decide +kernel
theorem dL_multipliers_279 : decode cL_multipliers 279 = .ok (.sipush 225, 3) := by decide +kernel
theorem dL_multipliers_282 : decode cL_multipliers 282 = .ok (.invokestatic 102, 3) := by decide +kernel
theorem dL_multipliers_285 : decode cL_multipliers 285 = .ok (.ifCond .eq 40, 3) := by decide +kernel
theorem dL_multipliers_288 : decode cL_multipliers 288 = .ok (.aload_n 0, 1) := by decide +kernel
theorem dL_multipliers_289 : decode cL_multipliers 289 = .ok (.iconst 3, 1) := by decide +kernel
theorem dL_multipliers_290 : decode cL_multipliers 290 = .ok (.iconst 2, 1) := by decide +kernel
theorem dL_multipliers_291 : decode cL_multipliers 291 = .ok (.invokevirtual 46, 3) := by decide +kernel
theorem dL_multipliers_294 : decode cL_multipliers 294 = .ok (.bipush 8, 2) := by decide +kernel
theorem dL_multipliers_296 : decode cL_multipliers 296 = .ok (.if_icmp .ne 29, 3) := by decide +kernel
theorem dL_multipliers_299 : decode cL_multipliers 299 = .ok (.aload_n 0, 1) := by decide +kernel
theorem dL_multipliers_300 : decode cL_multipliers 300 = .ok (.iconst 3, 1) := by decide +kernel
theorem dL_multipliers_301 : decode cL_multipliers 301 = .ok (.iconst 0, 1) := by decide +kernel
theorem dL_multipliers_302 : decode cL_multipliers 302 = .ok (.bipush 99, 2) := by decide +kernel
theorem dL_multipliers_304 : decode cL_multipliers 304 = .ok (.invokevirtual 64, 3) := by decide +kernel
theorem dL_multipliers_307 : decode cL_multipliers 307 = .ok (.iconst 1, 1) := by decide +kernel
theorem dL_multipliers_308 : decode cL_multipliers 308 = .ok (.if_icmp .ne 17, 3) := by decide +kernel
theorem dL_multipliers_311 : decode cL_multipliers 311 = .ok (.aload_n 0, 1) := by decide +kernel
theorem dL_multipliers_312 : decode cL_multipliers 312 = .ok (.iconst 3, 1) := by decide +kernel
theorem dL_multipliers_313 : decode cL_multipliers 313 = .ok (.invokevirtual 28, 3) := by decide +kernel
theorem dL_multipliers_316 : decode cL_multipliers 316 = .ok (.bipush 72, 2) := by decide +kernel
theorem dL_multipliers_318 : decode cL_multipliers 318 = .ok (.if_icmp .ne 7, 3) := by decide +kernel
theorem dL_multipliers_321 : decode cL_multipliers 321 = .ok (.iconst 1, 1) := by decide +kernel
theorem dL_multipliers_322 : decode cL_multipliers 322 = .ok (.goto 4, 3) := by decide +kernel
theorem dL_multipliers_325 : decode cL_multipliers 325 = .ok (.iconst 0, 1) := by decide +kernel
theorem dL_multipliers_326 : decode cL_multipliers 326 = .ok (.ireturn, 1) := by decide +kernel
theorem dL_glitch_0 : decode cL_glitch 0 = .ok (.aload_n 0, 1) := by decide +kernel
theorem dL_glitch_1 : decode cL_glitch 1 = .ok (.iconst 3, 1) := by decide +kernel
theorem dL_glitch_2 : decode cL_glitch 2 = .ok (.invokevirtual 7, 3) := by decide +kernel
theorem dL_glitch_5 : decode cL_glitch 5 = .ok (.ifCond .ne 166, 3) := by decide +kernel
theorem dL_glitch_8 : decode cL_glitch 8 = .ok (.aload_n 0, 1) := by decide +kernel
theorem dL_glitch_9 : decode cL_glitch 9 = .ok (.iconst 3, 1) := by decide +kernel
theorem dL_glitch_10 : decode cL_glitch 10 = .ok (.iconst 3, 1) := by decide +kernel
theorem dL_glitch_11 : decode cL_glitch 11 = .ok (.iconst 0, 1) := by decide +kernel
theorem dL_glitch_12 : decode cL_glitch 12 = .ok (.bipush (-5), 2) := by decide +kernel
theorem dL_glitch_14 : decode cL_glitch 14 = .ok (.invokevirtual 13, 3) := by decide +kernel
theorem dL_glitch_17 : decode cL_glitch 17 = .ok (.iconst 1, 1) := by decide +kernel
theorem dL_glitch_18 : decode cL_glitch 18 = .ok (.if_icmp .ne 153, 3) := by decide +kernel

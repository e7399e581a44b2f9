set_option maxRecDepth 20000 in
theorem gL_adders_L_digits : GoodIn wsL_adders (va_wsS RL 119 yL_digits wsL_digits) := goodIn_app (goodIn_of _ (by decide +kernel)) ggL_adders_L_digits
set_option maxRecDepth 20000 in
theorem ggL_adders_L_most : GoodIn wsL_adders wsL_most := goodIn_ca (goodIn_ca (goodIn_ca (goodIn_r _ [686, 1, 2, 3, 5, 683, 687, 7, 8, 9, 10, 11, 12, 13, 14, 15, 16, 17, 18, 19, 20, 21, 22, 23, 24, 25, 26, 27, 28, 29, 30, 31, 32, 33, 34, 35, 36, 37, 38, 39, 40, 41, 42, 43, 44, 45, 46, 47, 48, 49, 50, 51, 52, 53, 54, 55, 56, 57, 58, 59, 60, 61, 62, 63, 64, 65, 66, 67, 68, 69, 70, 71, 72, 73, 74, 75, 76, 77, 78, 79, 80, 81, 82, 83, 84, 85, 86, 87, 88, 89, 90, 91, 92, 93, 94, 95, 96, 97, 98, 99, 100, 101, 102, 103, 104, 105, 106, 107, 108, 109, 110, 111, 112, 113, 114, 115, 116, 117, 118, 119, 120, 121, 122, 123, 124, 125, 126, 127, 128, 129, 130, 131, 132, 257, 258, 135, 259, 260, 261, 262, 141, 142, 263, 264, 265, 266, 267, 268, 147, 148, 149, 150, 151, 152, 269, 270, 271, 272, 162, 163, 164, 165, 166, 167, 273, 274, 275, 276, 277, 278, 279, 280, 281, 282, 283, 284, 285, 286, 287, 288, 289, 290, 291, 292, 293, 294, 295, 296, 297, 298, 299, 300, 301, 302, 303, 168, 169, 170, 171, 172, 304, 305, 306, 307, 308, 309, 310, 311, 153, 154, 155, 156, 157, 312, 313, 314, 158, 159, 160, 161, 315, 316, 317, 318, 319, 320, 321, 322, 323, 324, 325, 326, 327, 328, 329, 330, 331, 332, 333, 334, 335, 336, 337, 338, 339, 340, 341, 342, 343, 344, 345, 346, 347, 348, 241, 182, 183, 184, 349, 350, 351, 352, 353, 354, 355, 356, 357, 358, 359, 360, 361, 362, 363, 364, 365, 366, 367, 368, 369, 370, 371, 372, 373, 374, 375, 376, 377, 378, 379, 380, 381, 189, 382, 383, 384, 385, 386, 387, 388, 389, 181, 390, 391, 392, 393, 394, 395, 396, 397, 398, 399, 400, 401, 402, 403, 404, 405, 406, 407, 408, 178, 179, 180, 409, 410, 411, 412, 413, 414, 415, 416, 417, 186, 187, 188, 418, 202, 203, 204, 419, 420, 421, 422, 423, 207, 208, 209, 424, 425, 426, 427, 428, 429, 430, 431, 432, 433, 222, 223, 224, 434, 435, 436, 437, 438, 439, 440, 441, 442, 443, 444, 445, 446, 447, 448, 449, 450, 451, 452, 453, 454, 230, 231, 232, 233, 252, 253, 254, 255, 256, 234, 247, 235, 236, 243, 455, 456, 457, 458, 459, 244, 143, 144, 145, 146, 173, 174, 175, 176, 177, 185, 190, 191, 192, 193, 194, 195, 196, 197, 198, 199, 200, 201, 205, 206, 210, 211, 212, 213, 214, 215, 216, 217, 218, 219, 220, 221, 225, 226, 227, 228, 229, 237, 238, 239, 240, 242, 245, 246, 248, 249, 250, 251, 460, 461, 462, 463, 464, 465, 466, 467, 468, 469, 470, 471, 472, 473, 474, 475, 476, 477, 478, 479, 480, 481, 482, 483, 484, 485, 486, 487, 488, 489, 490, 491, 492, 493, 494, 495, 496, 497, 498, 499, 500, 501, 502, 503, 504, 505, 506, 507, 508, 509, 510, 511, 512, 513, 514, 515, 516, 517, 518, 519, 520, 521, 522, 523, 524, 525, 526, 527, 528, 529, 530, 531, 532, 533, 534, 535, 536, 537, 538, 539, 540, 541, 542, 543, 544, 545, 546, 547, 548, 549, 550, 551, 552, 553, 554, 555, 556, 557, 558, 559, 560, 561, 562, 563, 564, 565, 566, 567, 568, 569, 570, 571, 572, 573, 574, 575, 576, 577, 578, 579, 580, 581, 582, 583, 584, 585, 586, 587, 588, 589, 590, 591, 592, 593, 594, 595, 596, 597, 598, 599, 600, 601, 602, 603, 604, 605, 606, 607, 608, 609, 610, 611, 612, 613, 614, 615, 616, 617, 618, 619, 620, 621, 622, 623, 624, 625, 626, 627, 628, 629, 630, 631, 632, 633, 634, 635, 636, 637, 638, 639, 640, 641, 642, 643, 644, 645, 646, 647, 648, 649, 650, 651, 652, 653, 654, 655, 656, 657, 658, 659, 660, 661, 662, 663, 667, 668, 669, 133, 134, 136, 137, 138, 139, 140, 688, 689, 690, 691, 692, 693, 694, 695, 696, 697, 698, 699, 700, 701, 702, 703, 704, 705, 706, 707, 708, 709, 710, 711, 712, 713, 714, 715, 716, 717, 718, 719, 720, 721, 722, 723, 724, 725, 726, 727, 728, 729, 730, 731, 732, 733, 734, 735, 736, 737] (by decide +kernel) (by decide +kernel)) (goodIn_sub (fun _ h => List.mem_cons_of_mem _ (List.mem_append_right _ h)) (by decide +kernel))) (goodIn_sub (fun _ h => List.mem_cons_of_mem _ (List.mem_append_left _ (List.mem_append_left _ (List.mem_append_right _ h)))) (by decide +kernel))) (goodIn_sub (fun _ h => List.mem_cons_of_mem _ (List.mem_append_left _ (List.mem_append_right _ h))) (by decide +kernel))
set_option maxRecDepth 20000 in
theorem gL_adders_L_most : GoodIn wsL_adders (va_wsS RL 122 yL_most wsL_most) := goodIn_app (goodIn_of _ (by decide +kernel)) ggL_adders_L_most
theorem dL_adders_0 : decode cL_adders 0 = .ok (.new 8, 3) := by decide +kernel
theorem dL_adders_3 : decode cL_adders 3 = .ok (.dup, 1) := by decide +kernel
theorem dL_adders_4 : decode cL_adders 4 = .ok (.invokespecial 92, 3) := by decide +kernel
theorem dL_adders_7 : decode cL_adders 7 = .ok (.astore_n 0, 1) := by decide +kernel
theorem dL_adders_8 : decode cL_adders 8 = .ok (.aload_n 0, 1) := by decide +kernel
theorem dL_adders_9 : decode cL_adders 9 = .ok (.invokestatic 93, 3) := by decide +kernel
theorem dL_adders_12 : decode cL_adders 12 = .ok (.ifCond .eq 368, 3) := by decide +kernel
theorem dL_adders_15 : decode cL_adders 15 = .ok (.aload_n 0, 1) := by decide +kernel
theorem dL_adders_16 : decode cL_adders 16 = .ok (.iconst 2, 1) := by decide +kernel
theorem dL_adders_17 : decode cL_adders 17 = .ok (.iconst 0, 1) := by decide +kernel
theorem dL_adders_18 : decode cL_adders 18 = .ok (.iconst 0, 1) := by decide +kernel
theorem dL_adders_19 : decode cL_adders 19 = .ok (.iconst 0, 1) := by decide +kernel
theorem dL_adders_20 : decode cL_adders 20 = .ok (.iconst 0, 1) := by decide +kernel
theorem dL_adders_21 : decode cL_adders 21 = .ok (.iconst 0, 1) := by decide +kernel
theorem dL_adders_22 : decode cL_adders 22 = .ok (.iconst 0, 1) := by decide +kernel
theorem dL_adders_23 : decode cL_adders 23 = .ok (.invokestatic 97, 3) := by decide +kernel
theorem dL_adders_26 : decode cL_adders 26 = .ok (.ifCond .eq 354, 3) := by decide +kernel
theorem dL_adders_29 : decode cL_adders 29 = .ok (.aload_n 0, 1) := by decide +kernel
theorem dL_adders_30 : decode cL_adders 30 = .ok (.iconst 2, 1) := by decide +kernel
theorem dL_adders_31 : decode cL_adders 31 = .ok (.iconst 5, 1) := by decide +kernel
theorem dL_adders_32 : decode cL_adders 32 = .ok (.invokevirtual 46, 3) := by decide +kernel
theorem dL_adders_35 : decode cL_adders 35 = .ok (.ifCond .ne 345, 3) := by decide +kernel
theorem dL_adders_38 : decode cL_adders 38 = .ok (.aload_n 0, 1) := by decide +kernel
theorem dL_adders_39 : decode cL_adders 39 = .ok (.iconst 2, 1) := by decide +kernel
theorem dL_adders_40 : decode cL_adders 40 = .ok (.ldc 101, 2) := by decide +kernel
theorem dL_adders_42 : decode cL_adders 42 = .ok (.iconst 0, 1) := by decide +kernel
theorem dL_adders_43 : decode cL_adders 43 = .ok (.invokestatic 102, 3) := by decide +kernel
theorem dL_adders_46 : decode cL_adders 46 = .ok (.ifCond .eq 334, 3) := by decide +kernel
theorem dL_adders_49 : decode cL_adders 49 = .ok (.aload_n 0, 1) := by decide +kernel
theorem dL_adders_50 : decode cL_adders 50 = .ok (.iconst 2, 1) := by decide +kernel
theorem dL_adders_51 : decode cL_adders 51 = .ok (.iconst (-1), 1) := by decide +kernel
theorem dL_adders_52 : decode cL_adders 52 = .ok (.iconst (-1), 1) := by decide +kernel
theorem dL_adders_53 : decode cL_adders 53 = .ok (.iconst (-1), 1) := by decide +kernel
theorem dL_adders_54 : decode cL_adders 54 = .ok (.iconst (-1), 1) := by decide +kernel
theorem dL_adders_55 : decode cL_adders 55 = .ok (.iconst (-1), 1) := by decide +kernel
theorem dL_adders_56 : decode cL_adders 56 = .ok (.invokestatic 105, 3) := by decide +kernel
theorem dL_adders_59 : decode cL_adders 59 = .ok (.ifCond .eq 321, 3) := by decide +kernel
theorem dL_adders_62 : decode cL_adders 62 = .ok (.aload_n 0, 1) := by decide +kernel
theorem dL_adders_63 : decode cL_adders 63 = .ok (.iconst 2, 1) := by decide +kernel
theorem dL_adders_64 : decode cL_adders 64 = .ok (.iconst 0, 1) := by decide +kernel
theorem dL_adders_65 : decode cL_adders 65 = .ok (.bipush 9, 2) := by decide +kernel
theorem dL_adders_67 : decode cL_adders 67 = .ok (.iconst 0, 1) := by decide +kernel
theorem dL_adders_68 : decode cL_adders 68 = .ok (.iconst 0, 1) := by decide +kernel
theorem dL_adders_69 : decode cL_adders 69 = .ok (.iconst 0, 1) := by decide +kernel
theorem dL_adders_70 : decode cL_adders 70 = .ok (.invokestatic 108, 3) := by decide +kernel
theorem dL_adders_73 : decode cL_adders 73 = .ok (.ifCond .eq 307, 3) := by decide +kernel
theorem dL_adders_76 : decode cL_adders 76 = .ok (.aload_n 0, 1) := by decide +kernel
theorem dL_adders_77 : decode cL_adders 77 = .ok (.iconst 1, 1) := by decide +kernel
theorem dL_adders_78 : decode cL_adders 78 = .ok (.iconst 2, 1) := by decide +kernel
theorem dL_adders_79 : decode cL_adders 79 = .ok (.invokevirtual 67, 3) := by decide +kernel
theorem dL_adders_82 : decode cL_adders 82 = .ok (.iconst (-1), 1) := by decide +kernel
theorem dL_adders_83 : decode cL_adders 83 = .ok (.if_icmp .ne 297, 3) := by decide +kernel
theorem dL_adders_86 : decode cL_adders 86 = .ok (.aload_n 0, 1) := by decide +kernel
theorem dL_adders_87 : decode cL_adders 87 = .ok (.bipush 16, 2) := by decide +kernel
theorem dL_adders_89 : decode cL_adders 89 = .ok (.iconst 1, 1) := by decide +kernel
theorem dL_adders_90 : decode cL_adders 90 = .ok (.iconst 0, 1) := by decide +kernel
theorem dL_adders_91 : decode cL_adders 91 = .ok (.iconst 0, 1) := by decide +kernel
theorem dL_adders_92 : decode cL_adders 92 = .ok (.iconst 0, 1) := by decide +kernel
theorem dL_adders_93 : decode cL_adders 93 = .ok (.invokestatic 86, 3) := by decide +kernel
theorem dL_adders_96 : decode cL_adders 96 = .ok (.ldc 81, 2) := by decide +kernel
theorem dL_adders_98 : decode cL_adders 98 = .ok (.if_icmp .ne 282, 3) := by decide +kernel
theorem dL_adders_101 : decode cL_adders 101 = .ok (.aload_n 0, 1) := by decide +kernel
theorem dL_adders_102 : decode cL_adders 102 = .ok (.iconst 0, 1) := by decide +kernel
theorem dL_adders_103 : decode cL_adders 103 = .ok (.iconst 0, 1) := by decide +kernel
theorem dL_adders_104 : decode cL_adders 104 = .ok (.iconst 2, 1) := by decide +kernel
theorem dL_adders_105 : decode cL_adders 105 = .ok (.invokevirtual 21, 3) := by decide +kernel
theorem dL_adders_108 : decode cL_adders 108 = .ok (.bipush 11, 2) := by decide +kernel
theorem dL_adders_110 : decode cL_adders 110 = .ok (.if_icmp .ne 270, 3) := by decide +kernel
theorem dL_adders_113 : decode cL_adders 113 = .ok (.aload_n 0, 1) := by decide +kernel
theorem dL_adders_114 : decode cL_adders 114 = .ok (.iconst 0, 1) := by decide +kernel
theorem dL_adders_115 : decode cL_adders 115 = .ok (.bipush 11, 2) := by decide +kernel
theorem dL_adders_117 : decode cL_adders 117 = .ok (.iconst 4, 1) := by decide +kernel
theorem dL_adders_118 : decode cL_adders 118 = .ok (.iconst 3, 1) := by decide +kernel
theorem dL_adders_119 : decode cL_adders 119 = .ok (.bipush 7, 2) := by decide +kernel
theorem dL_adders_121 : decode cL_adders 121 = .ok (.iconst 3, 1) := by decide +kernel
theorem dL_adders_122 : decode cL_adders 122 = .ok (.iconst 0, 1) := by decide +kernel
theorem dL_adders_123 : decode cL_adders 123 = .ok (.invokestatic 97, 3) := by decide +kernel
theorem dL_adders_126 : decode cL_adders 126 = .ok (.ifCond .eq 254, 3) := by decide +kernel
theorem dL_adders_129 : decode cL_adders 129 = .ok (.aload_n 0, 1) := by decide +kernel
theorem dL_adders_130 : decode cL_adders 130 = .ok (.iconst 0, 1) := by decide +kernel
theorem dL_adders_131 : decode cL_adders 131 = .ok (.iconst 5, 1) := by decide +kernel
theorem dL_adders_132 : decode cL_adders 132 = .ok (.invokevirtual 46, 3) := by decide +kernel
theorem dL_adders_135 : decode cL_adders 135 = .ok (.iconst 2, 1) := by decide +kernel
theorem dL_adders_136 : decode cL_adders 136 = .ok (.if_icmp .ne 244, 3) := by decide +kernel
theorem dL_adders_139 : decode cL_adders 139 = .ok (.aload_n 0, 1) := by decide +kernel
theorem dL_adders_140 : decode cL_adders 140 = .ok (.iconst 0, 1) := by decide +kernel
theorem dL_adders_141 : decode cL_adders 141 = .ok (.bipush 7, 2) := by decide +kernel
theorem dL_adders_143 : decode cL_adders 143 = .ok (.iconst 4, 1) := by decide +kernel
theorem dL_adders_144 : decode cL_adders 144 = .ok (.invokestatic 102, 3) := by decide +kernel
theorem dL_adders_147 : decode cL_adders 147 = .ok (.ifCond .eq 233, 3) := by decide +kernel
theorem dL_adders_150 : decode cL_adders 150 = .ok (.aload_n 0, 1) := by decide +kernel
theorem dL_adders_151 : decode cL_adders 151 = .ok (.iconst 0, 1) := by decide +kernel
theorem dL_adders_152 : decode cL_adders 152 = .ok (.bipush 15, 2) := by decide +kernel
theorem dL_adders_154 : decode cL_adders 154 = .ok (.bipush 6, 2) := by decide +kernel
theorem dL_adders_156 : decode cL_adders 156 = .ok (.invokestatic 102, 3) := by decide +kernel
theorem dL_adders_159 : decode cL_adders 159 = .ok (.ifCond .eq 221, 3) := by decide +kernel
theorem dL_adders_162 : decode cL_adders 162 = .ok (.aload_n 0, 1) := by decide +kernel
theorem dL_adders_163 : decode cL_adders 163 = .ok (.iconst 0, 1) := by decide +kernel
theorem dL_adders_164 : decode cL_adders 164 = .ok (.ldc 110, 2) := by decide +kernel
theorem dL_adders_166 : decode cL_adders 166 = .ok (.iconst 0, 1) := by decide +kernel
theorem dL_adders_167 : decode cL_adders 167 = .ok (.invokestatic 102, 3) := by decide +kernel
theorem dL_adders_170 : decode cL_adders 170 = .ok (.ifCond .eq 210, 3) := by decide +kernel
theorem dL_adders_173 : decode cL_adders 173 = .ok (.aload_n 0, 1) := by decide +kernel
theorem dL_adders_174 : decode cL_adders 174 = .ok (.iconst 0, 1) := by decide +kernel
theorem dL_adders_175 : decode cL_adders 175 = .ok (.bipush 10, 2) := by decide +kernel
theorem dL_adders_177 : decode cL_adders 177 = .ok (.invokevirtual 49, 3) := by decide +kernel
theorem dL_adders_180 : decode cL_adders 180 = .ok (.iconst 3, 1) := by decide +kernel
theorem dL_adders_181 : decode cL_adders 181 = .ok (.if_icmp .ne 199, 3) := by decide +kernel
theorem dL_adders_184 : decode cL_adders 184 = .ok (.aload_n 0, 1) := by decide +kernel
theorem dL_adders_185 : decode cL_adders 185 = .ok (.iconst 0, 1) := by decide +kernel
theorem dL_adders_186 : decode cL_adders 186 = .ok (.bipush 7, 2) := by decide +kernel
theorem dL_adders_188 : decode cL_adders 188 = .ok (.invokevirtual 49, 3) := by decide +kernel
theorem dL_adders_191 : decode cL_adders 191 = .ok (.iconst 2, 1) := by decide +kernel
theorem dL_adders_192 : decode cL_adders 192 = .ok (.if_icmp .ne 188, 3) := by decide +kernel
theorem dL_adders_195 : decode cL_adders 195 = .ok (.aload_n 0, 1) := by decide +kernel
theorem dL_adders_196 : decode cL_adders 196 = .ok (.iconst 0, 1) := by decide +kernel
theorem dL_adders_197 : decode cL_adders 197 = .ok (.iconst 3, 1) := by decide +kernel
theorem dL_adders_198 : decode cL_adders 198 = .ok (.invokevirtual 49, 3) := by decide +kernel
theorem dL_adders_201 : decode cL_adders 201 = .ok (.ifCond .ne 179, 3) := by decide +kernel
theorem dL_adders_204 : decode cL_adders 204 = .ok (.aload_n 0, 1) := by decide +kernel
theorem dL_adders_205 : decode cL_adders 205 = .ok (.iconst 0, 1) := by decide +kernel
theorem dL_adders_206 : decode cL_adders 206 = .ok (.bipush 10, 2) := by decide +kernel
theorem dL_adders_208 : decode cL_adders 208 = .ok (.bipush 9, 2) := by decide +kernel
theorem dL_adders_210 : decode cL_adders 210 = .ok (.bipush 6, 2) := by decide +kernel
theorem dL_adders_212 : decode cL_adders 212 = .ok (.iconst 1, 1) := by decide +kernel
theorem dL_adders_213 : decode cL_adders 213 = .ok (.iconst (-1), 1) := by decide +kernel
theorem dL_adders_214 : decode cL_adders 214 = .ok (.invokestatic 105, 3) := by decide +kernel
theorem dL_adders_217 : decode cL_adders 217 = .ok (.ifCond .eq 163, 3) := by decide +kernel
theorem dL_adders_220 : decode cL_adders 220 = .ok (.aload_n 0, 1) := by decide +kernel
theorem dL_adders_221 : decode cL_adders 221 = .ok (.iconst 0, 1) := by decide +kernel
theorem dL_adders_222 : decode cL_adders 222 = .ok (.iconst 5, 1) := by decide +kernel
theorem dL_adders_223 : decode cL_adders 223 = .ok (.iconst 5, 1) := by decide +kernel
theorem dL_adders_224 : decode cL_adders 224 = .ok (.invokevirtual 37, 3) := by decide +kernel
theorem dL_adders_227 : decode cL_adders 227 = .ok (.iconst 1, 1) := by decide +kernel
theorem dL_adders_228 : decode cL_adders 228 = .ok (.if_icmp .ne 152, 3) := by decide +kernel
theorem dL_adders_231 : decode cL_adders 231 = .ok (.aload_n 0, 1) := by decide +kernel
theorem dL_adders_232 : decode cL_adders 232 = .ok (.iconst 0, 1) := by decide +kernel
theorem dL_adders_233 : decode cL_adders 233 = .ok (.bipush 7, 2) := by decide +kernel
theorem dL_adders_235 : decode cL_adders 235 = .ok (.iconst 5, 1) := by decide +kernel
theorem dL_adders_236 : decode cL_adders 236 = .ok (.invokevirtual 37, 3) := by decide +kernel
theorem dL_adders_239 : decode cL_adders 239 = .ok (.iconst 1, 1) := by decide +kernel
theorem dL_adders_240 : decode cL_adders 240 = .ok (.if_icmp .ne 140, 3) := by decide +kernel
theorem dL_adders_243 : decode cL_adders 243 = .ok (.aload_n 0, 1) := by decide +kernel
theorem dL_adders_244 : decode cL_adders 244 = .ok (.iconst 0, 1) := by decide +kernel
theorem dL_adders_245 : decode cL_adders 245 = .ok (.bipush 6, 2) := by decide +kernel
theorem dL_adders_247 : decode cL_adders 247 = .ok (.iconst 5, 1) := by decide +kernel
theorem dL_adders_248 : decode cL_adders 248 = .ok (.invokevirtual 37, 3) := by decide +kernel
theorem dL_adders_251 : decode cL_adders 251 = .ok (.ifCond .ne 129, 3) := by decide +kernel
theorem dL_adders_254 : decode cL_adders 254 = .ok (.aload_n 0, 1) := by decide +kernel
theorem dL_adders_255 : decode cL_adders 255 = .ok (.iconst 0, 1) := by decide +kernel
theorem dL_adders_256 : decode cL_adders 256 = .ok (.iconst 2, 1) := by decide +kernel
theorem dL_adders_257 : decode cL_adders 257 = .ok (.iconst 4, 1) := by decide +kernel
theorem dL_adders_258 : decode cL_adders 258 = .ok (.invokevirtual 37, 3) := by decide +kernel
theorem dL_adders_261 : decode cL_adders 261 = .ok (.iconst 1, 1) := by decide +kernel
theorem dL_adders_262 : decode cL_adders 262 = .ok (.if_icmp .ne 118, 3) := by decide +kernel
theorem dL_adders_265 : decode cL_adders 265 = .ok (.aload_n 0, 1) := by decide +kernel
theorem dL_adders_266 : decode cL_adders 266 = .ok (.iconst 0, 1) := by decide +kernel
theorem dL_adders_267 : decode cL_adders 267 = .ok (.iconst 0, 1) := by decide +kernel
theorem dL_adders_268 : decode cL_adders 268 = .ok (.iconst 0, 1) := by decide +kernel
theorem dL_adders_269 : decode cL_adders 269 = .ok (.iconst 0, 1) := by decide +kernel
theorem dL_adders_270 : decode cL_adders 270 = .ok (.iconst 0, 1) := by decide +kernel
theorem dL_adders_271 : decode cL_adders 271 = .ok (.iconst (-1), 1) := by decide +kernel
theorem dL_adders_272 : decode cL_adders 272 = .ok (.invokestatic 111, 3) := by decide +kernel
theorem dL_adders_275 : decode cL_adders 275 = .ok (.ifCond .eq 105, 3) := by decide +kernel
theorem dL_adders_278 : decode cL_adders 278 = .ok (.aload_n 0, 1) := by decide +kernel
theorem dL_adders_279 : decode cL_adders 279 = .ok (.iconst 0, 1) := by decide +kernel
theorem dL_adders_280 : decode cL_adders 280 = .ok (.iconst 1, 1) := by decide +kernel
theorem dL_adders_281 : decode cL_adders 281 = .ok (.bipush 14, 2) := by decide +kernel
theorem dL_adders_283 : decode cL_adders 283 = .ok (.iconst 3, 1) := by decide +kernel
theorem dL_adders_284 : decode cL_adders 284 = .ok (.bipush 22, 2) := by decide +kernel
theorem dL_adders_286 : decode cL_adders 286 = .ok (.iconst 1, 1) := by decide +kernel
theorem dL_adders_287 : decode cL_adders 287 = .ok (.invokestatic 111, 3) := by decide +kernel
theorem dL_adders_290 : decode cL_adders 290 = .ok (.ifCond .eq 90, 3) := by decide +kernel
theorem dL_adders_293 : decode cL_adders 293 = .ok (.aload_n 0, 1) := by decide +kernel
theorem dL_adders_294 : decode cL_adders 294 = .ok (.iconst 0, 1) := by decide +kernel
theorem dL_adders_295 : decode cL_adders 295 = .ok (.iconst 1, 1) := by decide +kernel
theorem dL_adders_296 : decode cL_adders 296 = .ok (.iconst 2, 1) := by decide +kernel
theorem dL_adders_297 : decode cL_adders 297 = .ok (.invokevirtual 64, 3) := by decide +kernel
theorem dL_adders_300 : decode cL_adders 300 = .ok (.iconst 2, 1) := by decide +kernel
theorem dL_adders_301 : decode cL_adders 301 = .ok (.if_icmp .ne 79, 3) := by decide +kernel
theorem dL_adders_304 : decode cL_adders 304 = .ok (.aload_n 0, 1) := by decide +kernel
theorem dL_adders_305 : decode cL_adders 305 = .ok (.iconst 0, 1) := by decide +kernel
theorem dL_adders_306 : decode cL_adders 306 = .ok (.iconst 1, 1) := by decide +kernel
theorem dL_adders_307 : decode cL_adders 307 = .ok (.iconst 3, 1) := by decide +kernel
theorem dL_adders_308 : decode cL_adders 308 = .ok (.invokevirtual 64, 3) := by decide +kernel
theorem dL_adders_311 : decode cL_adders 311 = .ok (.iconst 3, 1) := by decide +kernel
theorem dL_adders_312 : decode cL_adders 312 = .ok (.if_icmp .ne 68, 3) := by decide +kernel
theorem dL_adders_315 : decode cL_adders 315 = .ok (.aload_n 0, 1) := by decide +kernel
theorem dL_adders_316 : decode cL_adders 316 = .ok (.iconst 0, 1) := by decide +kernel
theorem dL_adders_317 : decode cL_adders 317 = .ok (.iconst 0, 1) := by decide +kernel
theorem dL_adders_318 : decode cL_adders 318 = .ok (.iconst 5, 1) := by decide +kernel
theorem dL_adders_319 : decode cL_adders 319 = .ok (.invokevirtual 64, 3) := by decide +kernel
theorem dL_adders_322 : decode cL_adders 322 = .ok (.ifCond .ne 58, 3) := by decide +kernel
theorem dL_adders_325 : decode cL_adders 325 = .ok (.aload_n 0, 1) := by decide +kernel
theorem dL_adders_326 : decode cL_adders 326 = .ok (.iconst 0, 1) := by decide +kernel
theorem dL_adders_327 : decode cL_adders 327 = .ok (.iconst 0, 1) := by decide +kernel
theorem dL_adders_328 : decode cL_adders 328 = .ok (.iconst 5, 1) := by decide +kernel
theorem dL_adders_329 : decode cL_adders 329 = .ok (.iconst 2, 1) := by decide +kernel
theorem dL_adders_330 : decode cL_adders 330 = .ok (.iconst 2, 1) := by decide +kernel
theorem dL_adders_331 : decode cL_adders 331 = .ok (.iconst 1, 1) := by decide +kernel
theorem dL_adders_332 : decode cL_adders 332 = .ok (.invokestatic 108, 3) := by decide +kernel
theorem dL_adders_335 : decode cL_adders 335 = .ok (.ifCond .eq 45, 3) := by decide +kernel
theorem dL_adders_338 : decode cL_adders 338 = .ok (.aload_n 0, 1) := by decide +kernel
theorem dL_adders_339 : decode cL_adders 339 = .ok (.iconst 0, 1) := by decide +kernel
theorem dL_adders_340 : decode cL_adders 340 = .ok (.iconst 3, 1) := by decide +kernel
theorem dL_adders_341 : decode cL_adders 341 = .ok (.bipush 7, 2) := by decide +kernel
theorem dL_adders_343 : decode cL_adders 343 = .ok (.iconst 5, 1) := by decide +kernel
theorem dL_adders_344 : decode cL_adders 344 = .ok (.iconst 3, 1) := by decide +kernel
theorem dL_adders_345 : decode cL_adders 345 = .ok (.iconst 3, 1) := by decide +kernel
theorem dL_adders_346 : decode cL_adders 346 = .ok (.invokestatic 108, 3) := by decide +kernel
theorem dL_adders_349 : decode cL_adders 349 = .ok (.ifCond .eq 31, 3) := by decide +kernel
theorem dL_adders_352 : decode cL_adders 352 = .ok (.aload_n 0, 1) := by decide +kernel
theorem dL_adders_353 : decode cL_adders 353 = .ok (.iconst 0, 1) := by decide +kernel
theorem dL_adders_354 : decode cL_adders 354 = .ok (.iconst 1, 1) := by decide +kernel
theorem dL_adders_355 : decode cL_adders 355 = .ok (.iconst 4, 1) := by decide +kernel
theorem dL_adders_356 : decode cL_adders 356 = .ok (.iconst 0, 1) := by decide +kernel
theorem dL_adders_357 : decode cL_adders 357 = .ok (.iconst 0, 1) := by decide +kernel
theorem dL_adders_358 : decode cL_adders 358 = .ok (.iconst 0, 1) := by decide +kernel
theorem dL_adders_359 : decode cL_adders 359 = .ok (.invokestatic 108, 3) := by decide +kernel
theorem dL_adders_362 : decode cL_adders 362 = .ok (.ifCond .eq 18, 3) := by decide +kernel
theorem dL_adders_365 : decode cL_adders 365 = .ok (.aload_n 0, 1) := by decide +kernel
theorem dL_adders_366 : decode cL_adders 366 = .ok (.iconst 0, 1) := by decide +kernel
theorem dL_adders_367 : decode cL_adders 367 = .ok (.bipush 6, 2) := by decide +kernel
theorem dL_adders_369 : decode cL_adders 369 = .ok (.bipush 6, 2) := by decide +kernel
theorem dL_adders_371 : decode cL_adders 371 = .ok (.iconst 0, 1) := by decide +kernel
theorem dL_adders_372 : decode cL_adders 372 = .ok (.iconst 0, 1) := by decide +kernel
theorem dL_adders_373 : decode cL_adders 373 = .ok (.iconst 0, 1) := by decide +kernel
theorem dL_adders_374 : decode cL_adders 374 = .ok (.invokestatic 108, 3) := by decide +kernel
theorem dL_adders_377 : decode cL_adders 377 = .ok (.ifCond .ne 5, 3) := by decide +kernel
theorem dL_adders_380 : decode cL_adders 380 = .ok (.iconst 0, 1) := by decide +kernel
theorem dL_adders_381 : decode cL_adders 381 = .ok (.ireturn, 1) := by decide +kernel
theorem dL_adders_382 : decode cL_adders 382 = .ok (.aload_n 0, 1) := by decide +kernel
theorem dL_adders_383 : decode cL_adders 383 = .ok (.iconst 0, 1) := by decide +kernel
theorem dL_adders_384 : decode cL_adders 384 = .ok (.iconst 5, 1) := by decide +kernel
theorem dL_adders_385 : decode cL_adders 385 = .ok (.iconst 0, 1) := by decide +kernel
theorem dL_adders_386 : decode cL_adders 386 = .ok (.invokevirtual 34, 3) := by decide +kernel
theorem dL_adders_389 : decode cL_adders 389 = .ok (.iconst (-1), 1) := by decide +kernel
theorem dL_adders_390 : decode cL_adders 390 = .ok (.if_icmp .ne 413, 3) := by decide +kernel
theorem dL_adders_393 : decode cL_adders 393 = .ok (.aload_n 0, 1) := by decide +kernel
theorem dL_adders_394 : decode cL_adders 394 = .ok (.iconst 0, 1) := by decide +kernel
theorem dL_adders_395 : decode cL_adders 395 = .ok (.iconst 5, 1) := by decide +kernel
theorem dL_adders_396 : decode cL_adders 396 = .ok (.iconst 0, 1) := by decide +kernel
theorem dL_adders_397 : decode cL_adders 397 = .ok (.invokestatic 102, 3) := by decide +kernel
theorem dL_adders_400 : decode cL_adders 400 = .ok (.ifCond .eq 403, 3) := by decide +kernel
theorem dL_adders_403 : decode cL_adders 403 = .ok (.aload_n 0, 1) := by decide +kernel
theorem dL_adders_404 : decode cL_adders 404 = .ok (.iconst 0, 1) := by decide +kernel
theorem dL_adders_405 : decode cL_adders 405 = .ok (.iconst 0, 1) := by decide +kernel
theorem dL_adders_406 : decode cL_adders 406 = .ok (.iconst 4, 1) := by decide +kernel
theorem dL_adders_407 : decode cL_adders 407 = .ok (.iconst 2, 1) := by decide +kernel
theorem dL_adders_408 : decode cL_adders 408 = .ok (.bipush 8, 2) := by decide +kernel
theorem dL_adders_410 : decode cL_adders 410 = .ok (.iconst 5, 1) := by decide +kernel
theorem dL_adders_411 : decode cL_adders 411 = .ok (.invokestatic 111, 3) := by decide +kernel
theorem dL_adders_414 : decode cL_adders 414 = .ok (.ifCond .eq 389, 3) := by decide +kernel
theorem dL_adders_417 : decode cL_adders 417 = .ok (.aload_n 0, 1) := by decide +kernel
theorem dL_adders_418 : decode cL_adders 418 = .ok (.iconst 0, 1) := by decide +kernel
theorem dL_adders_419 : decode cL_adders 419 = .ok (.iconst 0, 1) := by decide +kernel
theorem dL_adders_420 : decode cL_adders 420 = .ok (.iconst 2, 1) := by decide +kernel
theorem dL_adders_421 : decode cL_adders 421 = .ok (.invokevirtual 64, 3) := by decide +kernel
theorem dL_adders_424 : decode cL_adders 424 = .ok (.iconst 4, 1) := by decide +kernel
theorem dL_adders_425 : decode cL_adders 425 = .ok (.if_icmp .ne 378, 3) := by decide +kernel
theorem dL_adders_428 : decode cL_adders 428 = .ok (.aload_n 0, 1) := by decide +kernel
theorem dL_adders_429 : decode cL_adders 429 = .ok (.iconst 0, 1) := by decide +kernel
theorem dL_adders_430 : decode cL_adders 430 = .ok (.iconst 0, 1) := by decide +kernel
theorem dL_adders_431 : decode cL_adders 431 = .ok (.iconst 3, 1) := by decide +kernel
theorem dL_adders_432 : decode cL_adders 432 = .ok (.invokevirtual 64, 3) := by decide +kernel
theorem dL_adders_435 : decode cL_adders 435 = .ok (.ifCond .ne 368, 3) := by decide +kernel
theorem dL_adders_438 : decode cL_adders 438 = .ok (.aload_n 0, 1) := by decide +kernel
theorem dL_adders_439 : decode cL_adders 439 = .ok (.iconst 0, 1) := by decide +kernel
theorem dL_adders_440 : decode cL_adders 440 = .ok (.iconst 0, 1) := by decide +kernel
theorem dL_adders_441 : decode cL_adders 441 = .ok (.iconst 5, 1) := by decide +kernel
theorem dL_adders_442 : decode cL_adders 442 = .ok (.iconst 0, 1) := by decide +kernel
theorem dL_adders_443 : decode cL_adders 443 = .ok (.iconst 0, 1) := by decide +kernel
theorem dL_adders_444 : decode cL_adders 444 = .ok (.iconst 0, 1) := by decide +kernel
theorem dL_adders_445 : decode cL_adders 445 = .ok (.invokestatic 108, 3) := by decide +kernel
theorem dL_adders_448 : decode cL_adders 448 = .ok (.ifCond .eq 355, 3) := by decide +kernel
theorem dL_adders_451 : decode cL_adders 451 = .ok (.aload_n 0, 1) := by decide +kernel
theorem dL_adders_452 : decode cL_adders 452 = .ok (.iconst 0, 1) := by decide +kernel
theorem dL_adders_453 : decode cL_adders 453 = .ok (.bipush 11, 2) := by decide +kernel
theorem dL_adders_455 : decode cL_adders 455 = .ok (.iconst 4, 1) := by decide +kernel
theorem dL_adders_456 : decode cL_adders 456 = .ok (.iconst 3, 1) := by decide +kernel
theorem dL_adders_457 : decode cL_adders 457 = .ok (.bipush 7, 2) := by decide +kernel
theorem dL_adders_459 : decode cL_adders 459 = .ok (.iconst 3, 1) := by decide +kernel
theorem dL_adders_460 : decode cL_adders 460 = .ok (.iconst 0, 1) := by decide +kernel
theorem dL_adders_461 : decode cL_adders 461 = .ok (.invokestatic 97, 3) := by decide +kernel
theorem dL_adders_464 : decode cL_adders 464 = .ok (.ifCond .eq 339, 3) := by decide +kernel
theorem dL_adders_467 : decode cL_adders 467 = .ok (.aload_n 0, 1) := by decide +kernel
theorem dL_adders_468 : decode cL_adders 468 = .ok (.iconst 0, 1) := by decide +kernel
theorem dL_adders_469 : decode cL_adders 469 = .ok (.iconst 5, 1) := by decide +kernel
theorem dL_adders_470 : decode cL_adders 470 = .ok (.iconst (-1), 1) := by decide +kernel
theorem dL_adders_471 : decode cL_adders 471 = .ok (.invokevirtual 34, 3) := by decide +kernel
theorem dL_adders_474 : decode cL_adders 474 = .ok (.ifCond .ne 329, 3) := by decide +kernel
theorem dL_adders_477 : decode cL_adders 477 = .ok (.aload_n 0, 1) := by decide +kernel
theorem dL_adders_478 : decode cL_adders 478 = .ok (.iconst 0, 1) := by decide +kernel
theorem dL_adders_479 : decode cL_adders 479 = .ok (.iconst 0, 1) := by decide +kernel
theorem dL_adders_480 : decode cL_adders 480 = .ok (.iconst 1, 1) := by decide +kernel
theorem dL_adders_481 : decode cL_adders 481 = .ok (.invokevirtual 34, 3) := by decide +kernel
theorem dL_adders_484 : decode cL_adders 484 = .ok (.iconst (-1), 1) := by decide +kernel
theorem dL_adders_485 : decode cL_adders 485 = .ok (.if_icmp .ne 318, 3) := by decide +kernel
theorem dL_adders_488 : decode cL_adders 488 = .ok (.aload_n 0, 1) := by decide +kernel
theorem dL_adders_489 : decode cL_adders 489 = .ok (.iconst 0, 1) := by decide +kernel
theorem dL_adders_490 : decode cL_adders 490 = .ok (.iconst 0, 1) := by decide +kernel
theorem dL_adders_491 : decode cL_adders 491 = .ok (.iconst 1, 1) := by decide +kernel
theorem dL_adders_492 : decode cL_adders 492 = .ok (.invokestatic 102, 3) := by decide +kernel
theorem dL_adders_495 : decode cL_adders 495 = .ok (.ifCond .eq 308, 3) := by decide +kernel
theorem dL_adders_498 : decode cL_adders 498 = .ok (.aload_n 0, 1) := by decide +kernel
theorem dL_adders_499 : decode cL_adders 499 = .ok (.iconst 0, 1) := by decide +kernel
theorem dL_adders_500 : decode cL_adders 500 = .ok (.iconst 0, 1) := by decide +kernel
theorem dL_adders_501 : decode cL_adders 501 = .ok (.iconst 1, 1) := by decide +kernel
theorem dL_adders_502 : decode cL_adders 502 = .ok (.iconst 0, 1) := by decide +kernel
theorem dL_adders_503 : decode cL_adders 503 = .ok (.iconst 0, 1) := by decide +kernel
theorem dL_adders_504 : decode cL_adders 504 = .ok (.iconst 0, 1) := by decide +kernel
theorem dL_adders_505 : decode cL_adders 505 = .ok (.invokestatic 108, 3) := by decide +kernel
theorem dL_adders_508 : decode cL_adders 508 = .ok (.ifCond .eq 295, 3) := by decide +kernel
theorem dL_adders_511 : decode cL_adders 511 = .ok (.aload_n 0, 1) := by decide +kernel
theorem dL_adders_512 : decode cL_adders 512 = .ok (.iconst 0, 1) := by decide +kernel
theorem dL_adders_513 : decode cL_adders 513 = .ok (.iconst 0, 1) := by decide +kernel
theorem dL_adders_514 : decode cL_adders 514 = .ok (.iconst 0, 1) := by decide +kernel
theorem dL_adders_515 : decode cL_adders 515 = .ok (.invokevirtual 37, 3) := by decide +kernel
theorem dL_adders_518 : decode cL_adders 518 = .ok (.iconst 1, 1) := by decide +kernel
theorem dL_adders_519 : decode cL_adders 519 = .ok (.if_icmp .ne 284, 3) := by decide +kernel
theorem dL_adders_522 : decode cL_adders 522 = .ok (.aload_n 0, 1) := by decide +kernel
theorem dL_adders_523 : decode cL_adders 523 = .ok (.iconst 0, 1) := by decide +kernel
theorem dL_adders_524 : decode cL_adders 524 = .ok (.iconst 0, 1) := by decide +kernel
theorem dL_adders_525 : decode cL_adders 525 = .ok (.iconst (-1), 1) := by decide +kernel
theorem dL_adders_526 : decode cL_adders 526 = .ok (.invokevirtual 34, 3) := by decide +kernel
theorem dL_adders_529 : decode cL_adders 529 = .ok (.iconst 1, 1) := by decide +kernel
theorem dL_adders_530 : decode cL_adders 530 = .ok (.if_icmp .ne 273, 3) := by decide +kernel
theorem dL_adders_533 : decode cL_adders 533 = .ok (.aload_n 0, 1) := by decide +kernel
theorem dL_adders_534 : decode cL_adders 534 = .ok (.iconst 0, 1) := by decide +kernel
theorem dL_adders_535 : decode cL_adders 535 = .ok (.iconst 0, 1) := by decide +kernel
theorem dL_adders_536 : decode cL_adders 536 = .ok (.iconst 0, 1) := by decide +kernel
theorem dL_adders_537 : decode cL_adders 537 = .ok (.invokestatic 102, 3) := by decide +kernel
theorem dL_adders_540 : decode cL_adders 540 = .ok (.ifCond .eq 263, 3) := by decide +kernel
theorem dL_adders_543 : decode cL_adders 543 = .ok (.aload_n 0, 1) := by decide +kernel
theorem dL_adders_544 : decode cL_adders 544 = .ok (.iconst 1, 1) := by decide +kernel
theorem dL_adders_545 : decode cL_adders 545 = .ok (.iconst 1, 1) := by decide +kernel
theorem dL_adders_546 : decode cL_adders 546 = .ok (.iconst 2, 1) := by decide +kernel
theorem dL_adders_547 : decode cL_adders 547 = .ok (.invokevirtual 21, 3) := by decide +kernel
theorem dL_adders_550 : decode cL_adders 550 = .ok (.bipush 12, 2) := by decide +kernel
theorem dL_adders_552 : decode cL_adders 552 = .ok (.if_icmp .ne 251, 3) := by decide +kernel
theorem dL_adders_555 : decode cL_adders 555 = .ok (.aload_n 0, 1) := by decide +kernel
theorem dL_adders_556 : decode cL_adders 556 = .ok (.iconst 1, 1) := by decide +kernel
theorem dL_adders_557 : decode cL_adders 557 = .ok (.bipush 12, 2) := by decide +kernel
theorem dL_adders_559 : decode cL_adders 559 = .ok (.iconst 4, 1) := by decide +kernel
theorem dL_adders_560 : decode cL_adders 560 = .ok (.iconst 3, 1) := by decide +kernel
theorem dL_adders_561 : decode cL_adders 561 = .ok (.bipush 8, 2) := by decide +kernel
theorem dL_adders_563 : decode cL_adders 563 = .ok (.iconst 3, 1) := by decide +kernel
theorem dL_adders_564 : decode cL_adders 564 = .ok (.iconst 1, 1) := by decide +kernel
theorem dL_adders_565 : decode cL_adders 565 = .ok (.invokestatic 97, 3) := by decide +kernel
theorem dL_adders_568 : decode cL_adders 568 = .ok (.ifCond .eq 235, 3) := by decide +kernel
theorem dL_adders_571 : decode cL_adders 571 = .ok (.aload_n 0, 1) := by decide +kernel
theorem dL_adders_572 : decode cL_adders 572 = .ok (.iconst 1, 1) := by decide +kernel
theorem dL_adders_573 : decode cL_adders 573 = .ok (.bipush 9, 2) := by decide +kernel
theorem dL_adders_575 : decode cL_adders 575 = .ok (.bipush 8, 2) := by decide +kernel
theorem dL_adders_577 : decode cL_adders 577 = .ok (.bipush 6, 2) := by decide +kernel
theorem dL_adders_579 : decode cL_adders 579 = .ok (.iconst 1, 1) := by decide +kernel
theorem dL_adders_580 : decode cL_adders 580 = .ok (.iconst (-1), 1) := by decide +kernel
theorem dL_adders_581 : decode cL_adders 581 = .ok (.invokestatic 105, 3) := by decide +kernel
theorem dL_adders_584 : decode cL_adders 584 = .ok (.ifCond .eq 219, 3) := by decide +kernel
theorem dL_adders_587 : decode cL_adders 587 = .ok (.aload_n 0, 1) := by decide +kernel
theorem dL_adders_588 : decode cL_adders 588 = .ok (.iconst 1, 1) := by decide +kernel
theorem dL_adders_589 : decode cL_adders 589 = .ok (.bipush 11, 2) := by decide +kernel
theorem dL_adders_591 : decode cL_adders 591 = .ok (.invokevirtual 49, 3) := by decide +kernel
theorem dL_adders_594 : decode cL_adders 594 = .ok (.iconst 2, 1) := by decide +kernel
theorem dL_adders_595 : decode cL_adders 595 = .ok (.if_icmp .ne 208, 3) := by decide +kernel
theorem dL_adders_598 : decode cL_adders 598 = .ok (.aload_n 0, 1) := by decide +kernel
theorem dL_adders_599 : decode cL_adders 599 = .ok (.iconst 0, 1) := by decide +kernel
theorem dL_adders_600 : decode cL_adders 600 = .ok (.iconst 1, 1) := by decide +kernel
theorem dL_adders_601 : decode cL_adders 601 = .ok (.invokevirtual 67, 3) := by decide +kernel
theorem dL_adders_604 : decode cL_adders 604 = .ok (.iconst (-1), 1) := by decide +kernel
theorem dL_adders_605 : decode cL_adders 605 = .ok (.if_icmp .ne 198, 3) := by decide +kernel
theorem dL_adders_608 : decode cL_adders 608 = .ok (.aload_n 0, 1) := by decide +kernel
theorem dL_adders_609 : decode cL_adders 609 = .ok (.iconst 1, 1) := by decide +kernel
theorem dL_adders_610 : decode cL_adders 610 = .ok (.iconst 0, 1) := by decide +kernel
theorem dL_adders_611 : decode cL_adders 611 = .ok (.invokevirtual 67, 3) := by decide +kernel
theorem dL_adders_614 : decode cL_adders 614 = .ok (.iconst (-1), 1) := by decide +kernel
theorem dL_adders_615 : decode cL_adders 615 = .ok (.if_icmp .ne 188, 3) := by decide +kernel
theorem dL_adders_618 : decode cL_adders 618 = .ok (.aload_n 0, 1) := by decide +kernel
theorem dL_adders_619 : decode cL_adders 619 = .ok (.iconst 1, 1) := by decide +kernel
theorem dL_adders_620 : decode cL_adders 620 = .ok (.bipush 8, 2) := by decide +kernel
theorem dL_adders_622 : decode cL_adders 622 = .ok (.iconst 1, 1) := by decide +kernel
theorem dL_adders_623 : decode cL_adders 623 = .ok (.invokevirtual 34, 3) := by decide +kernel
theorem dL_adders_626 : decode cL_adders 626 = .ok (.iconst (-1), 1) := by decide +kernel
theorem dL_adders_627 : decode cL_adders 627 = .ok (.if_icmp .ne 176, 3) := by decide +kernel
theorem dL_adders_630 : decode cL_adders 630 = .ok (.aload_n 0, 1) := by decide +kernel
theorem dL_adders_631 : decode cL_adders 631 = .ok (.iconst 0, 1) := by decide +kernel
theorem dL_adders_632 : decode cL_adders 632 = .ok (.iconst 1, 1) := by decide +kernel
theorem dL_adders_633 : decode cL_adders 633 = .ok (.invokevirtual 67, 3) := by decide +kernel
theorem dL_adders_636 : decode cL_adders 636 = .ok (.ifCond .ne 167, 3) := by decide +kernel
theorem dL_adders_639 : decode cL_adders 639 = .ok (.aload_n 0, 1) := by decide +kernel
theorem dL_adders_640 : decode cL_adders 640 = .ok (.iconst 1, 1) := by decide +kernel
theorem dL_adders_641 : decode cL_adders 641 = .ok (.invokevirtual 28, 3) := by decide +kernel
theorem dL_adders_644 : decode cL_adders 644 = .ok (.bipush 12, 2) := by decide +kernel
theorem dL_adders_646 : decode cL_adders 646 = .ok (.if_icmp .ne 157, 3) := by decide +kernel
theorem dL_adders_649 : decode cL_adders 649 = .ok (.aload_n 0, 1) := by decide +kernel
theorem dL_adders_650 : decode cL_adders 650 = .ok (.iconst 1, 1) := by decide +kernel
theorem dL_adders_651 : decode cL_adders 651 = .ok (.iconst 1, 1) := by decide +kernel
theorem dL_adders_652 : decode cL_adders 652 = .ok (.iconst 4, 1) := by decide +kernel
theorem dL_adders_653 : decode cL_adders 653 = .ok (.invokevirtual 21, 3) := by decide +kernel
theorem dL_adders_656 : decode cL_adders 656 = .ok (.bipush 31, 2) := by decide +kernel
theorem dL_adders_658 : decode cL_adders 658 = .ok (.if_icmp .ne 145, 3) := by decide +kernel
theorem dL_adders_661 : decode cL_adders 661 = .ok (.aload_n 0, 1) := by decide +kernel
theorem dL_adders_662 : decode cL_adders 662 = .ok (.iconst 2, 1) := by decide +kernel
theorem dL_adders_663 : decode cL_adders 663 = .ok (.iconst 2, 1) := by decide +kernel
theorem dL_adders_664 : decode cL_adders 664 = .ok (.iconst 4, 1) := by decide +kernel
theorem dL_adders_665 : decode cL_adders 665 = .ok (.invokevirtual 21, 3) := by decide +kernel
theorem dL_adders_668 : decode cL_adders 668 = .ok (.bipush 34, 2) := by decide +kernel
theorem dL_adders_670 : decode cL_adders 670 = .ok (.if_icmp .ne 133, 3) := by decide +kernel
theorem dL_adders_673 : decode cL_adders 673 = .ok (.aload_n 0, 1) := by decide +kernel
theorem dL_adders_674 : decode cL_adders 674 = .ok (.iconst 1, 1) := by decide +kernel
theorem dL_adders_675 : decode cL_adders 675 = .ok (.bipush 31, 2) := by decide +kernel
theorem dL_adders_677 : decode cL_adders 677 = .ok (.bipush 8, 2) := by decide +kernel
theorem dL_adders_679 : decode cL_adders 679 = .ok (.iconst 5, 1) := by decide +kernel
theorem dL_adders_680 : decode cL_adders 680 = .ok (.bipush 23, 2) := by decide +kernel
theorem dL_adders_682 : decode cL_adders 682 = .ok (.bipush 6, 2) := by decide +kernel
theorem dL_adders_684 : decode cL_adders 684 = .ok (.iconst 3, 1) := by decide +kernel
theorem dL_adders_685 : decode cL_adders 685 = .ok (.invokestatic 97, 3) := by decide +kernel
theorem dL_adders_688 : decode cL_adders 688 = .ok (.ifCond .eq 115, 3) := by decide +kernel
theorem dL_adders_691 : decode cL_adders 691 = .ok (.aload_n 0, 1) := by decide +kernel
theorem dL_adders_692 : decode cL_adders 692 = .ok (.iconst 2, 1) := by decide +kernel
theorem dL_adders_693 : decode cL_adders 693 = .ok (.bipush 34, 2) := by decide +kernel
theorem dL_adders_695 : decode cL_adders 695 = .ok (.bipush 8, 2) := by decide +kernel
theorem dL_adders_697 : decode cL_adders 697 = .ok (.iconst 5, 1) := by decide +kernel
theorem dL_adders_698 : decode cL_adders 698 = .ok (.bipush 26, 2) := by decide +kernel
theorem dL_adders_700 : decode cL_adders 700 = .ok (.iconst 5, 1) := by decide +kernel
theorem dL_adders_701 : decode cL_adders 701 = .ok (.iconst 3, 1) := by decide +kernel
theorem dL_adders_702 : decode cL_adders 702 = .ok (.invokestatic 97, 3) := by decide +kernel
theorem dL_adders_705 : decode cL_adders 705 = .ok (.ifCond .eq 98, 3) := by decide +kernel
theorem dL_adders_708 : decode cL_adders 708 = .ok (.aload_n 0, 1) := by decide +kernel
theorem dL_adders_709 : decode cL_adders 709 = .ok (.iconst 1, 1) := by decide +kernel
theorem dL_adders_710 : decode cL_adders 710 = .ok (.bipush 121, 2) := by decide +kernel
theorem dL_adders_712 : decode cL_adders 712 = .ok (.bipush 16, 2) := by decide +kernel
theorem dL_adders_714 : decode cL_adders 714 = .ok (.invokestatic 102, 3) := by decide +kernel
theorem dL_adders_717 : decode cL_adders 717 = .ok (.ifCond .eq 86, 3) := by decide +kernel
theorem dL_adders_720 : decode cL_adders 720 = .ok (.aload_n 0, 1) := by decide +kernel
theorem dL_adders_721 : decode cL_adders 721 = .ok (.iconst 2, 1) := by decide +kernel
theorem dL_adders_722 : decode cL_adders 722 = .ok (.bipush 121, 2) := by decide +kernel
theorem dL_adders_724 : decode cL_adders 724 = .ok (.bipush 16, 2) := by decide +kernel
theorem dL_adders_726 : decode cL_adders 726 = .ok (.invokestatic 102, 3) := by decide +kernel
theorem dL_adders_729 : decode cL_adders 729 = .ok (.ifCond .eq 74, 3) := by decide +kernel
theorem dL_adders_732 : decode cL_adders 732 = .ok (.aload_n 0, 1) := by decide +kernel
theorem dL_adders_733 : decode cL_adders 733 = .ok (.iconst 1, 1) := by decide +kernel
theorem dL_adders_734 : decode cL_adders 734 = .ok (.sipush 255, 3) := by decide +kernel
theorem dL_adders_737 : decode cL_adders 737 = .ok (.bipush 30, 2) := by decide +kernel
theorem dL_adders_739 : decode cL_adders 739 = .ok (.invokestatic 102, 3) := by decide +kernel
theorem dL_adders_742 : decode cL_adders 742 = .ok (.ifCond .eq 61, 3) := by decide +kernel
theorem dL_adders_745 : decode cL_adders 745 = .ok (.aload_n 0, 1) := by decide +kernel
theorem dL_adders_746 : decode cL_adders 746 = .ok (.iconst 1, 1) := by decide +kernel
theorem dL_adders_747 : decode cL_adders 747 = .ok (.iconst 2, 1) := by decide +kernel
theorem dL_adders_748 : decode cL_adders 748 = .ok (.invokevirtual 67, 3) := by decide +kernel
theorem dL_adders_751 : decode cL_adders 751 = .ok (.iconst (-1), 1) := by decide +kernel
theorem dL_adders_752 : decode cL_adders 752 = .ok (.if_icmp .ne 51, 3) := by decide +kernel
theorem dL_adders_755 : decode cL_adders 755 = .ok (.aload_n 0, 1) := by decide +kernel
theorem dL_adders_756 : decode cL_adders 756 = .ok (.bipush 18, 2) := by decide +kernel
theorem dL_adders_758 : decode cL_adders 758 = .ok (.iconst 0, 1) := by decide +kernel
theorem dL_adders_759 : decode cL_adders 759 = .ok (.iconst 1, 1) := by decide +kernel
theorem dL_adders_760 : decode cL_adders 760 = .ok (.iconst 0, 1) := by decide +kernel
theorem dL_adders_761 : decode cL_adders 761 = .ok (.iconst 0, 1) := by decide +kernel
theorem dL_adders_762 : decode cL_adders 762 = .ok (.invokestatic 86, 3) := by decide +kernel
theorem dL_adders_765 : decode cL_adders 765 = .ok (.ldc 81, 2) := by decide +kernel
theorem dL_adders_767 : decode cL_adders 767 = .ok (.if_icmp .ne 36, 3) := by decide +kernel
theorem dL_adders_770 : decode cL_adders 770 = .ok (.aload_n 0, 1) := by decide +kernel
theorem dL_adders_771 : decode cL_adders 771 = .ok (.iconst 1, 1) := by decide +kernel
theorem dL_adders_772 : decode cL_adders 772 = .ok (.iconst 0, 1) := by decide +kernel
theorem dL_adders_773 : decode cL_adders 773 = .ok (.iconst 0, 1) := by decide +kernel
theorem dL_adders_774 : decode cL_adders 774 = .ok (.iconst 0, 1) := by decide +kernel
theorem dL_adders_775 : decode cL_adders 775 = .ok (.iconst 0, 1) := by decide +kernel
theorem dL_adders_776 : decode cL_adders 776 = .ok (.iconst (-1), 1) := by decide +kernel
theorem dL_adders_777 : decode cL_adders 777 = .ok (.invokestatic 111, 3) := by decide +kernel
theorem dL_adders_780 : decode cL_adders 780 = .ok (.ifCond .eq 23, 3) := by decide +kernel
theorem dL_adders_783 : decode cL_adders 783 = .ok (.aload_n 0, 1) := by decide +kernel
theorem dL_adders_784 : decode cL_adders 784 = .ok (.iconst 2, 1) := by decide +kernel
theorem dL_adders_785 : decode cL_adders 785 = .ok (.iconst 0, 1) := by decide +kernel
theorem dL_adders_786 : decode cL_adders 786 = .ok (.iconst 0, 1) := by decide +kernel
theorem dL_adders_787 : decode cL_adders 787 = .ok (.iconst 0, 1) := by decide +kernel
theorem dL_adders_788 : decode cL_adders 788 = .ok (.iconst 0, 1) := by decide +kernel
theorem dL_adders_789 : decode cL_adders 789 = .ok (.iconst (-1), 1) := by decide +kernel
theorem dL_adders_790 : decode cL_adders 790 = .ok (.invokestatic 111, 3) := by decide +kernel
theorem dL_adders_793 : decode cL_adders 793 = .ok (.ifCond .eq 10, 3) := by decide +kernel
theorem dL_adders_796 : decode cL_adders 796 = .ok (.aload_n 0, 1) := by decide +kernel
theorem dL_adders_797 : decode cL_adders 797 = .ok (.invokestatic 93, 3) := by decide +kernel
theorem dL_adders_800 : decode cL_adders 800 = .ok (.ifCond .ne 5, 3) := by decide +kernel
theorem dL_adders_803 : decode cL_adders 803 = .ok (.iconst 0, 1) := by decide +kernel
theorem dL_adders_804 : decode cL_adders 804 = .ok (.ireturn, 1) := by decide +kernel
theorem dL_adders_805 : decode cL_adders 805 = .ok (.aload_n 0, 1) := by decide +kernel
theorem dL_adders_806 : decode cL_adders 806 = .ok (.iconst 3, 1) := by decide +kernel
theorem dL_adders_807 : decode cL_adders 807 = .ok (.iconst 0, 1) := by decide +kernel
theorem dL_adders_808 : decode cL_adders 808 = .ok (.iconst 4, 1) := by decide +kernel
theorem dL_adders_809 : decode cL_adders 809 = .ok (.invokevirtual 21, 3) := by decide +kernel
theorem dL_adders_812 : decode cL_adders 812 = .ok (.bipush 25, 2) := by decide +kernel
theorem dL_adders_814 : decode cL_adders 814 = .ok (.if_icmp .ne 165, 3) := by decide +kernel
theorem dL_adders_817 : decode cL_adders 817 = .ok (.aload_n 0, 1) := by decide +kernel
theorem dL_adders_818 : decode cL_adders 818 = .ok (.iconst 3, 1) := by decide +kernel
theorem dL_adders_819 : decode cL_adders 819 = .ok (.bipush 25, 2) := by decide +kernel
theorem dL_adders_821 : decode cL_adders 821 = .ok (.bipush 8, 2) := by decide +kernel
theorem dL_adders_823 : decode cL_adders 823 = .ok (.iconst 5, 1) := by decide +kernel
theorem dL_adders_824 : decode cL_adders 824 = .ok (.bipush 17, 2) := by decide +kernel
theorem dL_adders_826 : decode cL_adders 826 = .ok (.bipush 7, 2) := by decide +kernel
theorem dL_adders_828 : decode cL_adders 828 = .ok (.iconst 0, 1) := by decide +kernel
theorem dL_adders_829 : decode cL_adders 829 = .ok (.invokestatic 97, 3) := by decide +kernel
theorem dL_adders_832 : decode cL_adders 832 = .ok (.ifCond .eq 147, 3) := by decide +kernel
theorem dL_adders_835 : decode cL_adders 835 = .ok (.aload_n 0, 1) := by decide +kernel
theorem dL_adders_836 : decode cL_adders 836 = .ok (.iconst 3, 1) := by decide +kernel
theorem dL_adders_837 : decode cL_adders 837 = .ok (.iconst 2, 1) := by decide +kernel
theorem dL_adders_838 : decode cL_adders 838 = .ok (.invokevirtual 67, 3) := by decide +kernel
theorem dL_adders_841 : decode cL_adders 841 = .ok (.iconst (-1), 1) := by decide +kernel
theorem dL_adders_842 : decode cL_adders 842 = .ok (.if_icmp .ne 137, 3) := by decide +kernel
theorem dL_adders_845 : decode cL_adders 845 = .ok (.aload_n 0, 1) := by decide +kernel
theorem dL_adders_846 : decode cL_adders 846 = .ok (.iconst 3, 1) := by decide +kernel
theorem dL_adders_847 : decode cL_adders 847 = .ok (.invokevirtual 28, 3) := by decide +kernel
theorem dL_adders_850 : decode cL_adders 850 = .ok (.bipush 25, 2) := by decide +kernel
theorem dL_adders_852 : decode cL_adders 852 = .ok (.if_icmp .ne 127, 3) := by decide +kernel
theorem dL_adders_855 : decode cL_adders 855 = .ok (.aload_n 0, 1) := by decide +kernel
theorem dL_adders_856 : decode cL_adders 856 = .ok (.iconst 3, 1) := by decide +kernel
theorem dL_adders_857 : decode cL_adders 857 = .ok (.iconst 2, 1) := by decide +kernel
theorem dL_adders_858 : decode cL_adders 858 = .ok (.iconst 1, 1) := by decide +kernel
theorem dL_adders_859 : decode cL_adders 859 = .ok (.invokevirtual 21, 3) := by decide +kernel
theorem dL_adders_862 : decode cL_adders 862 = .ok (.iconst 4, 1) := by decide +kernel
theorem dL_adders_863 : decode cL_adders 863 = .ok (.if_icmp .ne 116, 3) := by decide +kernel
theorem dL_adders_866 : decode cL_adders 866 = .ok (.aload_n 0, 1) := by decide +kernel
theorem dL_adders_867 : decode cL_adders 867 = .ok (.iconst 3, 1) := by decide +kernel
theorem dL_adders_868 : decode cL_adders 868 = .ok (.iconst 4, 1) := by decide +kernel
theorem dL_adders_869 : decode cL_adders 869 = .ok (.iconst 2, 1) := by decide +kernel
theorem dL_adders_870 : decode cL_adders 870 = .ok (.iconst 2, 1) := by decide +kernel
theorem dL_adders_871 : decode cL_adders 871 = .ok (.iconst 2, 1) := by decide +kernel
theorem dL_adders_872 : decode cL_adders 872 = .ok (.iconst 1, 1) := by decide +kernel
theorem dL_adders_873 : decode cL_adders 873 = .ok (.iconst 0, 1) := by decide +kernel
theorem dL_adders_874 : decode cL_adders 874 = .ok (.invokestatic 97, 3) := by decide +kernel
theorem dL_adders_877 : decode cL_adders 877 = .ok (.ifCond .eq 102, 3) := by decide +kernel
theorem dL_adders_880 : decode cL_adders 880 = .ok (.aload_n 0, 1) := by decide +kernel
theorem dL_adders_881 : decode cL_adders 881 = .ok (.iconst 3, 1) := by decide +kernel
theorem dL_adders_882 : decode cL_adders 882 = .ok (.invokevirtual 28, 3) := by decide +kernel
theorem dL_adders_885 : decode cL_adders 885 = .ok (.iconst 4, 1) := by decide +kernel
theorem dL_adders_886 : decode cL_adders 886 = .ok (.if_icmp .ne 93, 3) := by decide +kernel
theorem dL_adders_889 : decode cL_adders 889 = .ok (.aload_n 0, 1) := by decide +kernel
theorem dL_adders_890 : decode cL_adders 890 = .ok (.iconst 3, 1) := by decide +kernel
theorem dL_adders_891 : decode cL_adders 891 = .ok (.iconst 0, 1) := by decide +kernel
theorem dL_adders_892 : decode cL_adders 892 = .ok (.iconst 1, 1) := by decide +kernel
theorem dL_adders_893 : decode cL_adders 893 = .ok (.invokevirtual 21, 3) := by decide +kernel
theorem dL_adders_896 : decode cL_adders 896 = .ok (.iconst 4, 1) := by decide +kernel
theorem dL_adders_897 : decode cL_adders 897 = .ok (.if_icmp .ne 82, 3) := by decide +kernel
theorem dL_adders_900 : decode cL_adders 900 = .ok (.aload_n 0, 1) := by decide +kernel
theorem dL_adders_901 : decode cL_adders 901 = .ok (.iconst 3, 1) := by decide +kernel
theorem dL_adders_902 : decode cL_adders 902 = .ok (.iconst 0, 1) := by decide +kernel
theorem dL_adders_903 : decode cL_adders 903 = .ok (.iconst 0, 1) := by decide +kernel
theorem dL_adders_904 : decode cL_adders 904 = .ok (.iconst 0, 1) := by decide +kernel
theorem dL_adders_905 : decode cL_adders 905 = .ok (.iconst 0, 1) := by decide +kernel
theorem dL_adders_906 : decode cL_adders 906 = .ok (.iconst (-1), 1) := by decide +kernel
theorem dL_adders_907 : decode cL_adders 907 = .ok (.invokestatic 111, 3) := by decide +kernel
theorem dL_adders_910 : decode cL_adders 910 = .ok (.ifCond .eq 69, 3) := by decide +kernel
theorem dL_adders_913 : decode cL_adders 913 = .ok (.aload_n 0, 1) := by decide +kernel
theorem dL_adders_914 : decode cL_adders 914 = .ok (.iconst 3, 1) := by decide +kernel
theorem dL_adders_915 : decode cL_adders 915 = .ok (.invokevirtual 28, 3) := by decide +kernel
theorem dL_adders_918 : decode cL_adders 918 = .ok (.iconst 4, 1) := by decide +kernel
theorem dL_adders_919 : decode cL_adders 919 = .ok (.if_icmp .ne 60, 3) := by decide +kernel
theorem dL_adders_922 : decode cL_adders 922 = .ok (.aload_n 0, 1) := by decide +kernel
theorem dL_adders_923 : decode cL_adders 923 = .ok (.iconst 3, 1) := by decide +kernel
theorem dL_adders_924 : decode cL_adders 924 = .ok (.iconst 1, 1) := by decide +kernel
theorem dL_adders_925 : decode cL_adders 925 = .ok (.bipush 6, 2) := by decide +kernel
theorem dL_adders_927 : decode cL_adders 927 = .ok (.invokevirtual 21, 3) := by decide +kernel
theorem dL_adders_930 : decode cL_adders 930 = .ok (.bipush 50, 2) := by decide +kernel
theorem dL_adders_932 : decode cL_adders 932 = .ok (.if_icmp .ne 47, 3) := by decide +kernel
theorem dL_adders_935 : decode cL_adders 935 = .ok (.aload_n 0, 1) := by decide +kernel
theorem dL_adders_936 : decode cL_adders 936 = .ok (.iconst 3, 1) := by decide +kernel
theorem dL_adders_937 : decode cL_adders 937 = .ok (.iconst 0, 1) := by decide +kernel
theorem dL_adders_938 : decode cL_adders 938 = .ok (.iconst 0, 1) := by decide +kernel
theorem dL_adders_939 : decode cL_adders 939 = .ok (.iconst 0, 1) := by decide +kernel
theorem dL_adders_940 : decode cL_adders 940 = .ok (.iconst 0, 1) := by decide +kernel
theorem dL_adders_941 : decode cL_adders 941 = .ok (.iconst (-1), 1) := by decide +kernel
theorem dL_adders_942 : decode cL_adders 942 = .ok (.invokestatic 111, 3) := by decide +kernel
theorem dL_adders_945 : decode cL_adders 945 = .ok (.ifCond .eq 34, 3) := by decide +kernel
theorem dL_adders_948 : decode cL_adders 948 = .ok (.aload_n 0, 1) := by decide +kernel
theorem dL_adders_949 : decode cL_adders 949 = .ok (.invokestatic 113, 3) := by decide +kernel
theorem dL_adders_952 : decode cL_adders 952 = .ok (.ifCond .eq 27, 3) := by decide +kernel
theorem dL_adders_955 : decode cL_adders 955 = .ok (.aload_n 0, 1) := by decide +kernel
theorem dL_adders_956 : decode cL_adders 956 = .ok (.invokestatic 116, 3) := by decide +kernel
theorem dL_adders_959 : decode cL_adders 959 = .ok (.ifCond .eq 20, 3) := by decide +kernel
theorem dL_adders_962 : decode cL_adders 962 = .ok (.aload_n 0, 1) := by decide +kernel
theorem dL_adders_963 : decode cL_adders 963 = .ok (.invokestatic 119, 3) := by decide +kernel
theorem dL_adders_966 : decode cL_adders 966 = .ok (.ifCond .eq 13, 3) := by decide +kernel
theorem dL_adders_969 : decode cL_adders 969 = .ok (.invokestatic 122, 3) := by decide +kernel
theorem dL_adders_972 : decode cL_adders 972 = .ok (.ifCond .eq 7, 3) := by decide +kernel
theorem dL_adders_975 : decode cL_adders 975 = .ok (.iconst 1, 1) := by decide +kernel
theorem dL_adders_976 : decode cL_adders 976 = .ok (.goto 4, 3) := by decide +kernel
theorem dL_adders_979 : decode cL_adders 979 = .ok (.iconst 0, 1) := by decide +kernel
theorem dL_adders_980 : decode cL_adders 980 = .ok (.ireturn, 1) := by decide +kernel
set_option maxRecDepth 20000 in
theorem ggL_multipliers_X11_clear : GoodIn wsL_multipliers wsX11_clear := goodIn_ca (goodIn_r _ [5, 6, 7, 8, 4, 9, 10, 11, 12, 13, 14, 15, 16, 17, 18, 19, 20, 21, 22, 23, 24, 375, 376, 377, 378, 379, 380, 381, 382, 383, 384, 385, 386, 387, 388, 389, 390, 391, 392, 393, 394] (by decide +kernel) (by decide +kernel)) (goodIn_sub (fun _ h => List.mem_cons_of_mem _ (List.mem_append_left _ (List.mem_append_left _ (List.mem_append_right _ h)))) (by decide +kernel))
set_option maxRecDepth 20000 in
theorem gL_multipliers_X11_clear : GoodIn wsL_multipliers (wsV RL 28 RX11 yX11_clear wsX11_clear) := goodIn_app (goodIn_of _ (by decide +kernel)) ggL_multipliers_X11_clear
set_option maxRecDepth 20000 in
theorem ggL_multipliers_X11_multiplier : GoodIn wsL_multipliers wsX11_multiplier := goodIn_ca (goodIn_ca (goodIn_ca (goodIn_r _ [28, 29, 6, 7, 8, 4, 9, 10, 11, 12, 30, 31, 32, 33, 34, 35, 36, 37, 38, 39, 13, 14, 15, 16, 17, 18, 40, 41, 42, 43, 44, 45, 46, 47, 48, 49, 50, 51, 52, 53, 54, 55, 23, 56, 57, 58, 59, 60, 61, 62, 63, 64, 65, 66, 67, 68, 69, 70, 71, 72, 73, 74, 75, 76, 77, 78, 79, 80, 81, 82, 83, 84, 85, 86, 24, 87, 88, 89, 90, 91, 92, 93, 94, 95, 96, 97, 98, 99, 100, 101, 375, 376, 377, 378, 379, 380, 381, 382, 383, 384, 385, 386, 387, 388, 389, 390, 391, 392, 393, 394, 395, 396, 397, 398, 399, 400, 401, 402, 403, 404, 405] (by decide +kernel) (by decide +kernel)) (goodIn_sub (fun _ h => List.mem_cons_of_mem _ (List.mem_append_left _ (List.mem_append_left _ (List.mem_append_right _ h)))) (by decide +kernel))) (goodIn_sub (fun _ h => List.mem_cons_of_mem _ (List.mem_append_left _ (List.mem_append_right _ h))) (by decide +kernel))) (goodIn_sub (fun _ h => List.mem_cons_of_mem _ (List.mem_append_right _ h)) (by decide +kernel))
set_option maxRecDepth 20000 in
theorem gL_multipliers_X11_multiplier : GoodIn wsL_multipliers (wsV RL 25 RX11 yX11_multiplier wsX11_multiplier) := goodIn_app (goodIn_of _ (by decide +kernel)) ggL_multipliers_X11_multiplier
set_option maxRecDepth 20000 in
theorem ggL_multipliers_L_net : GoodIn wsL_multipliers wsL_net := goodIn_ca (goodIn_ca (goodIn_r _ [105, 106, 107, 108, 4, 109, 110, 111, 112, 6, 7, 8, 9, 10, 11, 12, 30, 31, 32, 33, 34, 13, 14, 15, 16, 17, 18, 113, 114, 115, 116, 23, 117, 118, 119, 120, 24, 121, 122, 123, 124, 125, 126, 127, 128, 129, 60, 130, 76, 77, 67, 78, 69, 131, 132, 133, 134, 135, 136, 137, 138, 139, 140, 141, 142, 143, 144, 145, 146, 147, 148, 149, 150, 151, 152, 61, 153, 154, 155, 156, 157, 62, 158, 159, 65, 66, 68, 160, 161, 162, 163, 164, 165, 166, 167, 168, 169, 170, 171, 172, 87, 173, 174, 175, 176, 177, 178, 179, 180, 181, 182, 183, 184, 185, 186, 187, 188, 189, 190, 191, 192, 193, 194, 195, 196, 197, 198, 199, 200, 201, 202, 203, 204, 205, 206, 207, 375, 376, 377, 378, 379, 380, 381, 382, 383, 384, 385, 386, 387, 388, 389, 390, 391, 392, 393, 394, 405, 406, 407, 408, 409, 410] (by decide +kernel) (by decide +kernel)) (goodIn_sub (fun _ h => List.mem_cons_of_mem _ (List.mem_append_left _ (List.mem_append_left _ (List.mem_append_right _ h)))) (by decide +kernel))) (goodIn_sub (fun _ h => List.mem_cons_of_mem _ (List.mem_append_left _ (List.mem_append_right _ h))) (by decide +kernel))
set_option maxRecDepth 20000 in
theorem gL_multipliers_L_net : GoodIn wsL_multipliers (va_wsS RL 97 yL_net wsL_net) := goodIn_app (goodIn_of _ (by decide +kernel)) ggL_multipliers_L_net
set_option maxRecDepth 20000 in
theorem ggL_multipliers_X11_ofNet : GoodIn wsL_multipliers wsX11_ofNet := goodIn_ca (goodIn_ca (goodIn_r _ [109, 110, 111, 112, 6, 7, 8, 4, 9, 10, 11, 12, 30, 31, 32, 33, 34, 13, 14, 15, 16, 17, 18, 113, 114, 115, 116, 23, 117, 118, 119, 120, 24, 121, 122, 123, 124, 125, 126, 127, 128, 129, 60, 130, 76, 77, 67, 78, 69, 131, 132, 133, 134, 135, 136, 137, 138, 139, 140, 141, 142, 143, 144, 145, 146, 147, 148, 149, 150, 151, 152, 61, 153, 154, 155, 156, 157, 62, 158, 159, 65, 66, 68, 160, 161, 162, 163, 164, 165, 166, 167, 168, 169, 170, 171, 172, 87, 173, 174, 175, 176, 177, 178, 179, 180, 181, 182, 183, 184, 185, 186, 187, 188, 189, 190, 191, 192, 193, 194, 195, 196, 197, 198, 199, 200, 201, 202, 203, 204, 205, 206, 207, 375, 376, 377, 378, 379, 380, 381, 382, 383, 384, 385, 386, 387, 388, 389, 390, 391, 392, 393, 394, 405, 406, 407, 408, 409, 410] (by decide +kernel) (by decide +kernel)) (goodIn_sub (fun _ h => List.mem_cons_of_mem _ (List.mem_append_left _ (List.mem_append_left _ (List.mem_append_right _ h)))) (by decide +kernel))) (goodIn_sub (fun _ h => List.mem_cons_of_mem _ (List.mem_append_left _ (List.mem_append_right _ h))) (by decide +kernel))
set_option maxRecDepth 20000 in
theorem gL_multipliers_X11_ofNet : GoodIn wsL_multipliers (wsV RL 46 RX11 yX11_ofNet wsX11_ofNet) := goodIn_app (goodIn_of _ (by decide +kernel)) ggL_multipliers_X11_ofNet
set_option maxRecDepth 20000 in
theorem ggL_multipliers_L_value : GoodIn wsL_multipliers wsL_value := goodIn_ca (goodIn_ca (goodIn_r _ [210, 211, 212, 213, 4, 214, 215, 216, 6, 7, 8, 9, 10, 11, 12, 30, 31, 32, 33, 34, 217, 218, 219, 220, 221, 222, 223, 224, 225, 226, 227, 228, 14, 15, 16, 17, 18, 229, 127, 128, 129, 60, 130, 76, 77, 67, 78, 69, 230, 231, 232, 233, 234, 235, 236, 237, 238, 132, 133, 134, 239, 150, 151, 152, 61, 240, 241, 242, 243, 244, 245, 246, 155, 156, 157, 62, 247, 248, 249, 250, 251, 252, 253, 63, 254, 255, 256, 257, 258, 118, 119, 120, 24, 259, 170, 171, 172, 87, 260, 261, 262, 263, 264, 265, 266, 267, 112, 117, 268, 269, 270, 271, 176, 272, 202, 273, 180, 181, 182, 183, 203, 65, 66, 68, 204, 205, 206, 207, 184, 197, 185, 186, 193, 274, 275, 276, 277, 278, 194, 375, 376, 377, 378, 379, 380, 381, 382, 383, 384, 385, 386, 411, 412, 387, 388, 389, 390, 391, 392, 393, 394, 405, 413, 408, 409, 410] (by decide +kernel) (by decide +kernel)) (goodIn_sub (fun _ h => List.mem_cons_of_mem _ (List.mem_append_left _ (List.mem_append_left _ (List.mem_append_right _ h)))) (by decide +kernel))) (goodIn_sub (fun _ h => List.mem_cons_of_mem _ (List.mem_append_left _ (List.mem_append_right _ h))) (by decide +kernel))
set_option maxRecDepth 20000 in
theorem gL_multipliers_L_value : GoodIn wsL_multipliers (va_wsS RL 102 yL_value wsL_value) := goodIn_app (goodIn_of _ (by decide +kernel)) ggL_multipliers_L_value
set_option maxRecDepth 20000 in
theorem ggL_multipliers_L_path : GoodIn wsL_multipliers wsL_path := goodIn_ca (goodIn_r _ [281, 282, 283, 284, 285, 4, 286, 10, 11, 110, 111, 6, 7, 8, 9, 12, 136, 137, 138, 139, 140, 141, 142, 143, 144, 145, 146, 147, 14, 15, 16, 17, 18, 148, 127, 128, 129, 60, 130, 76, 77, 67, 78, 69, 149, 150, 151, 152, 61, 153, 154, 155, 156, 157, 62, 158, 132, 133, 134, 159, 65, 66, 68, 287, 165, 166, 167, 168, 118, 119, 120, 24, 169, 170, 171, 172, 87, 288, 289, 290, 291, 375, 376, 377, 378, 379, 380, 381, 382, 383, 384, 385, 386, 406, 407, 387, 388, 389, 390, 391, 392, 393, 394, 405] (by decide +kernel) (by decide +kernel)) (goodIn_sub (fun _ h => List.mem_cons_of_mem _ (List.mem_append_left _ (List.mem_append_left _ (List.mem_append_right _ h)))) (by decide +kernel))
set_option maxRecDepth 20000 in
theorem gL_multipliers_L_path : GoodIn wsL_multipliers (va_wsS RL 105 yL_path wsL_path) := goodIn_app (goodIn_of _ (by decide +kernel)) ggL_multipliers_L_path
set_option maxRecDepth 20000 in
theorem ggL_multipliers_X11_time : GoodIn wsL_multipliers wsX11_time := goodIn_ca (goodIn_r _ [295, 110, 111, 6, 7, 8, 4, 9, 10, 11, 12, 296, 297, 298, 299, 300, 301, 16, 302, 18, 136, 137, 138, 139, 140, 141, 142, 143, 144, 145, 146, 147, 14, 15, 17, 148, 127, 128, 129, 60, 130, 76, 77, 67, 78, 69, 149, 150, 151, 152, 61, 153, 154, 155, 156, 157, 62, 158, 132, 133, 134, 159, 65, 66, 68, 303, 304, 305, 306, 375, 376, 377, 378, 379, 380, 381, 382, 383, 384, 385, 386, 387, 388, 389, 390, 391, 392, 393, 394, 406, 407, 405] (by decide +kernel) (by decide +kernel)) (goodIn_sub (fun _ h => List.mem_cons_of_mem _ (List.mem_append_left _ (List.mem_append_left _ (List.mem_append_right _ h)))) (by decide +kernel))
set_option maxRecDepth 20000 in
theorem gL_multipliers_X11_time : GoodIn wsL_multipliers (wsV RL 49 RX11 yX11_time wsX11_time) := goodIn_app (goodIn_of _ (by decide +kernel)) ggL_multipliers_X11_time
set_option maxRecDepth 20000 in
theorem ggL_multipliers_L_off : GoodIn wsL_multipliers wsL_off := goodIn_ca (goodIn_ca (goodIn_ca (goodIn_r _ [309, 310, 311, 312, 4, 313, 314, 216, 6, 7, 8, 9, 10, 11, 12, 30, 31, 32, 33, 34, 315, 316, 317, 38, 39, 113, 114, 115, 16, 116, 23, 318, 319, 320, 321, 322, 323, 324, 145, 325, 326, 327, 328, 329, 330, 331, 332, 333, 334, 335, 336, 337, 338, 339, 340, 341, 220, 342, 222, 223, 224, 225, 226, 227, 228, 14, 15, 17, 18, 229, 127, 128, 129, 60, 130, 76, 77, 67, 78, 69, 230, 231, 232, 233, 234, 235, 236, 237, 238, 132, 133, 134, 239, 150, 151, 152, 61, 240, 241, 242, 243, 244, 245, 246, 155, 156, 157, 62, 247, 248, 249, 250, 251, 252, 253, 63, 254, 255, 256, 257, 258, 118, 119, 120, 24, 259, 170, 171, 172, 87, 343, 261, 262, 263, 344, 345, 346, 347, 348, 349, 350, 351, 144, 146, 352, 353, 354, 355, 375, 376, 377, 378, 379, 380, 381, 382, 383, 384, 385, 386, 387, 388, 389, 390, 391, 392, 393, 394, 414, 415, 416, 417, 418, 411, 412, 405, 413] (by decide +kernel) (by decide +kernel)) (goodIn_sub (fun _ h => List.mem_cons_of_mem _ (List.mem_append_left _ (List.mem_append_left _ (List.mem_append_right _ h)))) (by decide +kernel))) (goodIn_sub (fun _ h => List.mem_cons_of_mem _ (List.mem_append_left _ (List.mem_append_right _ h))) (by decide +kernel))) (goodIn_sub (fun _ h => List.mem_cons_of_mem _ (List.mem_append_right _ h)) (by decide +kernel))
set_option maxRecDepth 20000 in
theorem gL_multipliers_L_off : GoodIn wsL_multipliers (va_wsS RL 111 yL_off wsL_off) := goodIn_app (goodIn_of _ (by decide +kernel)) ggL_multipliers_L_off
set_option maxRecDepth 20000 in
theorem ggL_multipliers_X11_unlike : GoodIn wsL_multipliers wsX11_unlike := goodIn_ca (goodIn_ca (goodIn_r _ [359, 38, 39, 216, 360, 361, 324, 145, 325, 6, 7, 8, 4, 9, 10, 11, 12, 113, 114, 115, 16, 116, 23, 362, 340, 341, 220, 342, 222, 223, 224, 225, 226, 227, 228, 14, 15, 17, 18, 229, 127, 128, 129, 60, 130, 76, 77, 67, 78, 69, 230, 231, 232, 233, 234, 235, 236, 237, 238, 132, 133, 134, 239, 150, 151, 152, 61, 240, 241, 242, 243, 244, 245, 246, 155, 156, 157, 62, 247, 248, 249, 250, 251, 252, 253, 63, 254, 255, 256, 257, 258, 118, 119, 120, 24, 259, 170, 171, 172, 87, 363, 364, 365, 366, 375, 376, 377, 378, 379, 380, 381, 382, 383, 384, 385, 386, 387, 388, 389, 390, 391, 392, 393, 394, 411, 412, 405, 413] (by decide +kernel) (by decide +kernel)) (goodIn_sub (fun _ h => List.mem_cons_of_mem _ (List.mem_append_right _ h)) (by decide +kernel))) (goodIn_sub (fun _ h => List.mem_cons_of_mem _ (List.mem_append_left _ (List.mem_append_left _ (List.mem_append_right _ h)))) (by decide +kernel))
set_option maxRecDepth 20000 in
theorem gL_multipliers_X11_unlike : GoodIn wsL_multipliers (wsV RL 67 RX11 yX11_unlike wsX11_unlike) := goodIn_app (goodIn_of _ (by decide +kernel)) ggL_multipliers_X11_unlike
set_option maxRecDepth 20000 in
theorem ggL_multipliers_X11_unseen : GoodIn wsL_multipliers wsX11_unseen := goodIn_ca (goodIn_ca (goodIn_ca (goodIn_r _ [370, 314, 216, 6, 7, 8, 4, 9, 10, 11, 12, 30, 31, 32, 33, 34, 315, 316, 317, 38, 39, 113, 114, 115, 16, 116, 23, 318, 319, 320, 321, 322, 323, 324, 145, 325, 326, 327, 328, 329, 330, 331, 332, 333, 334, 335, 336, 337, 338, 339, 340, 341, 220, 342, 222, 223, 224, 225, 226, 227, 228, 14, 15, 17, 18, 229, 127, 128, 129, 60, 130, 76, 77, 67, 78, 69, 230, 231, 232, 233, 234, 235, 236, 237, 238, 132, 133, 134, 239, 150, 151, 152, 61, 240, 241, 242, 243, 244, 245, 246, 155, 156, 157, 62, 247, 248, 249, 250, 251, 252, 253, 63, 254, 255, 256, 257, 258, 118, 119, 120, 24, 259, 170, 171, 172, 87, 343, 261, 262, 263, 344, 345, 346, 347, 348, 349, 350, 351, 144, 146, 371, 372, 373, 374, 375, 376, 377, 378, 379, 380, 381, 382, 383, 384, 385, 386, 387, 388, 389, 390, 391, 392, 393, 394, 414, 415, 416, 417, 418, 411, 412, 405, 413] (by decide +kernel) (by decide +kernel)) (goodIn_sub (fun _ h => List.mem_cons_of_mem _ (List.mem_append_left _ (List.mem_append_left _ (List.mem_append_right _ h)))) (by decide +kernel))) (goodIn_sub (fun _ h => List.mem_cons_of_mem _ (List.mem_append_left _ (List.mem_append_right _ h))) (by decide +kernel))) (goodIn_sub (fun _ h => List.mem_cons_of_mem _ (List.mem_append_right _ h)) (by decide +kernel))
set_option maxRecDepth 20000 in
theorem gL_multipliers_X11_unseen : GoodIn wsL_multipliers (wsV RL 64 RX11 yX11_unseen wsX11_unseen) := goodIn_app (goodIn_of _ (by decide +kernel)) ggL_multipliers_X11_unseen
theorem dL_multipliers_0 : decode cL_multipliers 0 = .ok (.aload_n 0, 1) := by decide +kernel
theorem dL_multipliers_1 : decode cL_multipliers 1 = .ok (.iconst 3, 1) := by decide +kernel
theorem dL_multipliers_2 : decode cL_multipliers 2 = .ok (.invokevirtual 28, 3) := by decide +kernel
theorem dL_multipliers_5 : decode cL_multipliers 5 = .ok (.bipush 50, 2) := by decide +kernel
theorem dL_multipliers_7 : decode cL_multipliers 7 = .ok (.if_icmp .ne 318, 3) := by decide +kernel
theorem dL_multipliers_10 : decode cL_multipliers 10 = .ok (.aload_n 0, 1) := by decide +kernel
theorem dL_multipliers_11 : decode cL_multipliers 11 = .ok (.iconst 3, 1) := by decide +kernel
theorem dL_multipliers_12 : decode cL_multipliers 12 = .ok (.iconst 2, 1) := by decide +kernel
theorem dL_multipliers_13 : decode cL_multipliers 13 = .ok (.invokevirtual 25, 3) := by decide +kernel
theorem dL_multipliers_16 : decode cL_multipliers 16 = .ok (.bipush 12, 2) := by decide +kernel
theorem dL_multipliers_18 : decode cL_multipliers 18 = .ok (.if_icmp .ne 307, 3) := by decide +kernel
theorem dL_multipliers_21 : decode cL_multipliers 21 = .ok (.aload_n 0, 1) := by decide +kernel
theorem dL_multipliers_22 : decode cL_multipliers 22 = .ok (.iconst 3, 1) := by decide +kernel
theorem dL_multipliers_23 : decode cL_multipliers 23 = .ok (.bipush 12, 2) := by decide +kernel
theorem dL_multipliers_25 : decode cL_multipliers 25 = .ok (.iconst 4, 1) := by decide +kernel
theorem dL_multipliers_26 : decode cL_multipliers 26 = .ok (.iconst 4, 1) := by decide +kernel
theorem dL_multipliers_27 : decode cL_multipliers 27 = .ok (.bipush 8, 2) := by decide +kernel
theorem dL_multipliers_29 : decode cL_multipliers 29 = .ok (.iconst 3, 1) := by decide +kernel
theorem dL_multipliers_30 : decode cL_multipliers 30 = .ok (.iconst 0, 1) := by decide +kernel
theorem dL_multipliers_31 : decode cL_multipliers 31 = .ok (.invokestatic 97, 3) := by decide +kernel
theorem dL_multipliers_34 : decode cL_multipliers 34 = .ok (.ifCond .eq 291, 3) := by decide +kernel
theorem dL_multipliers_37 : decode cL_multipliers 37 = .ok (.aload_n 0, 1) := by decide +kernel
theorem dL_multipliers_38 : decode cL_multipliers 38 = .ok (.iconst 3, 1) := by decide +kernel
theorem dL_multipliers_39 : decode cL_multipliers 39 = .ok (.iconst 5, 1) := by decide +kernel
theorem dL_multipliers_40 : decode cL_multipliers 40 = .ok (.invokevirtual 46, 3) := by decide +kernel
theorem dL_multipliers_43 : decode cL_multipliers 43 = .ok (.iconst 2, 1) := by decide +kernel
theorem dL_multipliers_44 : decode cL_multipliers 44 = .ok (.if_icmp .ne 281, 3) := by decide +kernel
theorem dL_multipliers_47 : decode cL_multipliers 47 = .ok (.aload_n 0, 1) := by decide +kernel
theorem dL_multipliers_48 : decode cL_multipliers 48 = .ok (.iconst 3, 1) := by decide +kernel
theorem dL_multipliers_49 : decode cL_multipliers 49 = .ok (.bipush 15, 2) := by decide +kernel
theorem dL_multipliers_51 : decode cL_multipliers 51 = .ok (.bipush 9, 2) := by decide +kernel
theorem dL_multipliers_53 : decode cL_multipliers 53 = .ok (.invokestatic 102, 3) := by decide +kernel
theorem dL_multipliers_56 : decode cL_multipliers 56 = .ok (.ifCond .eq 269, 3) := by decide +kernel
theorem dL_multipliers_59 : decode cL_multipliers 59 = .ok (.aload_n 0, 1) := by decide +kernel
theorem dL_multipliers_60 : decode cL_multipliers 60 = .ok (.iconst 3, 1) := by decide +kernel
theorem dL_multipliers_61 : decode cL_multipliers 61 = .ok (.bipush 6, 2) := by decide +kernel
theorem dL_multipliers_63 : decode cL_multipliers 63 = .ok (.iconst 2, 1) := by decide +kernel
theorem dL_multipliers_64 : decode cL_multipliers 64 = .ok (.invokestatic 102, 3) := by decide +kernel
theorem dL_multipliers_67 : decode cL_multipliers 67 = .ok (.ifCond .eq 258, 3) := by decide +kernel
theorem dL_multipliers_70 : decode cL_multipliers 70 = .ok (.aload_n 0, 1) := by decide +kernel
theorem dL_multipliers_71 : decode cL_multipliers 71 = .ok (.iconst 3, 1) := by decide +kernel
theorem dL_multipliers_72 : decode cL_multipliers 72 = .ok (.bipush 10, 2) := by decide +kernel
theorem dL_multipliers_74 : decode cL_multipliers 74 = .ok (.bipush 9, 2) := by decide +kernel
theorem dL_multipliers_76 : decode cL_multipliers 76 = .ok (.iconst 5, 1) := by decide +kernel
theorem dL_multipliers_77 : decode cL_multipliers 77 = .ok (.iconst 1, 1) := by decide +kernel
theorem dL_multipliers_78 : decode cL_multipliers 78 = .ok (.iconst (-1), 1) := by decide +kernel
theorem dL_multipliers_79 : decode cL_multipliers 79 = .ok (.invokestatic 105, 3) := by decide +kernel
theorem dL_multipliers_82 : decode cL_multipliers 82 = .ok (.ifCond .eq 243, 3) := by decide +kernel
theorem dL_multipliers_85 : decode cL_multipliers 85 = .ok (.aload_n 0, 1) := by decide +kernel
theorem dL_multipliers_86 : decode cL_multipliers 86 = .ok (.iconst 3, 1) := by decide +kernel
theorem dL_multipliers_87 : decode cL_multipliers 87 = .ok (.bipush 11, 2) := by decide +kernel
theorem dL_multipliers_89 : decode cL_multipliers 89 = .ok (.invokevirtual 49, 3) := by decide +kernel
theorem dL_multipliers_92 : decode cL_multipliers 92 = .ok (.iconst 3, 1) := by decide +kernel
theorem dL_multipliers_93 : decode cL_multipliers 93 = .ok (.if_icmp .ne 232, 3) := by decide +kernel
theorem dL_multipliers_96 : decode cL_multipliers 96 = .ok (.aload_n 0, 1) := by decide +kernel
theorem dL_multipliers_97 : decode cL_multipliers 97 = .ok (.iconst 3, 1) := by decide +kernel
theorem dL_multipliers_98 : decode cL_multipliers 98 = .ok (.iconst 1, 1) := by decide +kernel
theorem dL_multipliers_99 : decode cL_multipliers 99 = .ok (.iconst 0, 1) := by decide +kernel
theorem dL_multipliers_100 : decode cL_multipliers 100 = .ok (.iconst 0, 1) := by decide +kernel
theorem dL_multipliers_101 : decode cL_multipliers 101 = .ok (.iconst 0, 1) := by decide +kernel
theorem dL_multipliers_102 : decode cL_multipliers 102 = .ok (.iconst (-1), 1) := by decide +kernel
theorem dL_multipliers_103 : decode cL_multipliers 103 = .ok (.invokestatic 111, 3) := by decide +kernel
theorem dL_multipliers_106 : decode cL_multipliers 106 = .ok (.ifCond .eq 219, 3) := by decide +kernel
theorem dL_multipliers_109 : decode cL_multipliers 109 = .ok (.aload_n 0, 1) := by decide +kernel
theorem dL_multipliers_110 : decode cL_multipliers 110 = .ok (.iconst 3, 1) := by decide +kernel
theorem dL_multipliers_111 : decode cL_multipliers 111 = .ok (.iconst 0, 1) := by decide +kernel
theorem dL_multipliers_112 : decode cL_multipliers 112 = .ok (.bipush 14, 2) := by decide +kernel
theorem dL_multipliers_114 : decode cL_multipliers 114 = .ok (.iconst 3, 1) := by decide +kernel
theorem dL_multipliers_115 : decode cL_multipliers 115 = .ok (.bipush 22, 2) := by decide +kernel
theorem dL_multipliers_117 : decode cL_multipliers 117 = .ok (.iconst 1, 1) := by decide +kernel
theorem dL_multipliers_118 : decode cL_multipliers 118 = .ok (.invokestatic 111, 3) := by decide +kernel
theorem dL_multipliers_121 : decode cL_multipliers 121 = .ok (.ifCond .eq 204, 3) := by decide +kernel
theorem dL_multipliers_124 : decode cL_multipliers 124 = .ok (.aload_n 0, 1) := by decide +kernel
theorem dL_multipliers_125 : decode cL_multipliers 125 = .ok (.iconst 0, 1) := by decide +kernel
theorem dL_multipliers_126 : decode cL_multipliers 126 = .ok (.iconst 3, 1) := by decide +kernel
theorem dL_multipliers_127 : decode cL_multipliers 127 = .ok (.invokevirtual 67, 3) := by decide +kernel
theorem dL_multipliers_130 : decode cL_multipliers 130 = .ok (.iconst 1, 1) := by decide +kernel
theorem dL_multipliers_131 : decode cL_multipliers 131 = .ok (.if_icmp .ne 194, 3) := by decide +kernel
theorem dL_multipliers_134 : decode cL_multipliers 134 = .ok (.aload_n 0, 1) := by decide +kernel
theorem dL_multipliers_135 : decode cL_multipliers 135 = .ok (.iconst 3, 1) := by decide +kernel
theorem dL_multipliers_136 : decode cL_multipliers 136 = .ok (.invokevirtual 28, 3) := by decide +kernel
theorem dL_multipliers_139 : decode cL_multipliers 139 = .ok (.bipush 12, 2) := by decide +kernel
theorem dL_multipliers_141 : decode cL_multipliers 141 = .ok (.if_icmp .ne 184, 3) := by decide +kernel
theorem dL_multipliers_144 : decode cL_multipliers 144 = .ok (.aload_n 0, 1) := by decide +kernel
theorem dL_multipliers_145 : decode cL_multipliers 145 = .ok (.iconst 3, 1) := by decide +kernel
theorem dL_multipliers_146 : decode cL_multipliers 146 = .ok (.iconst 1, 1) := by decide +kernel
theorem dL_multipliers_147 : decode cL_multipliers 147 = .ok (.invokevirtual 25, 3) := by decide +kernel
theorem dL_multipliers_150 : decode cL_multipliers 150 = .ok (.iconst 3, 1) := by decide +kernel
theorem dL_multipliers_151 : decode cL_multipliers 151 = .ok (.if_icmp .ne 174, 3) := by decide +kernel
theorem dL_multipliers_154 : decode cL_multipliers 154 = .ok (.aload_n 0, 1) := by decide +kernel
theorem dL_multipliers_155 : decode cL_multipliers 155 = .ok (.iconst 3, 1) := by decide +kernel
theorem dL_multipliers_156 : decode cL_multipliers 156 = .ok (.iconst 3, 1) := by decide +kernel
theorem dL_multipliers_157 : decode cL_multipliers 157 = .ok (.iconst 2, 1) := by decide +kernel
theorem dL_multipliers_158 : decode cL_multipliers 158 = .ok (.iconst 1, 1) := by decide +kernel
theorem dL_multipliers_159 : decode cL_multipliers 159 = .ok (.iconst 1, 1) := by decide +kernel
theorem dL_multipliers_160 : decode cL_multipliers 160 = .ok (.iconst 1, 1) := by decide +kernel
theorem dL_multipliers_161 : decode cL_multipliers 161 = .ok (.iconst 0, 1) := by decide +kernel
theorem dL_multipliers_162 : decode cL_multipliers 162 = .ok (.invokestatic 97, 3) := by decide +kernel
theorem dL_multipliers_165 : decode cL_multipliers 165 = .ok (.ifCond .eq 160, 3) := by decide +kernel
theorem dL_multipliers_168 : decode cL_multipliers 168 = .ok (.aload_n 0, 1) := by decide +kernel
theorem dL_multipliers_169 : decode cL_multipliers 169 = .ok (.iconst 3, 1) := by decide +kernel
theorem dL_multipliers_170 : decode cL_multipliers 170 = .ok (.iconst 3, 1) := by decide +kernel
theorem dL_multipliers_171 : decode cL_multipliers 171 = .ok (.iconst 1, 1) := by decide +kernel
theorem dL_multipliers_172 : decode cL_multipliers 172 = .ok (.invokestatic 102, 3) := by decide +kernel
theorem dL_multipliers_175 : decode cL_multipliers 175 = .ok (.ifCond .eq 150, 3) := by decide +kernel
theorem dL_multipliers_178 : decode cL_multipliers 178 = .ok (.aload_n 0, 1) := by decide +kernel
theorem dL_multipliers_179 : decode cL_multipliers 179 = .ok (.iconst 3, 1) := by decide +kernel
theorem dL_multipliers_180 : decode cL_multipliers 180 = .ok (.iconst 2, 1) := by decide +kernel
theorem dL_multipliers_181 : decode cL_multipliers 181 = .ok (.iconst 0, 1) := by decide +kernel
theorem dL_multipliers_182 : decode cL_multipliers 182 = .ok (.invokestatic 102, 3) := by decide +kernel
theorem dL_multipliers_185 : decode cL_multipliers 185 = .ok (.ifCond .eq 140, 3) := by decide +kernel
theorem dL_multipliers_188 : decode cL_multipliers 188 = .ok (.aload_n 0, 1) := by decide +kernel
theorem dL_multipliers_189 : decode cL_multipliers 189 = .ok (.iconst 3, 1) := by decide +kernel
theorem dL_multipliers_190 : decode cL_multipliers 190 = .ok (.invokevirtual 28, 3) := by decide +kernel
theorem dL_multipliers_193 : decode cL_multipliers 193 = .ok (.iconst 3, 1) := by decide +kernel
theorem dL_multipliers_194 : decode cL_multipliers 194 = .ok (.if_icmp .ne 131, 3) := by decide +kernel
theorem dL_multipliers_197 : decode cL_multipliers 197 = .ok (.aload_n 0, 1) := by decide +kernel
theorem dL_multipliers_198 : decode cL_multipliers 198 = .ok (.iconst 3, 1) := by decide +kernel

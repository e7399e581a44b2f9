theorem dL_most_117 : decode cL_most 117 = .ok (.if_icmp .ge 38, 3) := by decide +kernel
theorem dL_most_120 : decode cL_most 120 = .ok (.aload_n 0, 1) := by decide +kernel
theorem dL_most_121 : decode cL_most 121 = .ok (.iconst 2, 1) := by decide +kernel
theorem dL_most_122 : decode cL_most 122 = .ok (.iconst 1, 1) := by decide +kernel
theorem dL_most_123 : decode cL_most 123 = .ok (.bipush 119, 2) := by decide +kernel
theorem dL_most_125 : decode cL_most 125 = .ok (.iload_n 1, 1) := by decide +kernel
theorem dL_most_126 : decode cL_most 126 = .ok (.isub, 1) := by decide +kernel
theorem dL_most_127 : decode cL_most 127 = .ok (.iconst 0, 1) := by decide +kernel
theorem dL_most_128 : decode cL_most 128 = .ok (.iconst 0, 1) := by decide +kernel
theorem dL_most_129 : decode cL_most 129 = .ok (.invokestatic 86, 3) := by decide +kernel
theorem dL_most_132 : decode cL_most 132 = .ok (.iload_n 1, 1) := by decide +kernel
theorem dL_most_133 : decode cL_most 133 = .ok (.bipush 16, 2) := by decide +kernel
theorem dL_most_135 : decode cL_most 135 = .ok (.if_icmp .ge 7, 3) := by decide +kernel
theorem dL_most_138 : decode cL_most 138 = .ok (.iload_n 1, 1) := by decide +kernel
theorem dL_most_139 : decode cL_most 139 = .ok (.goto 5, 3) := by decide +kernel
theorem dL_most_142 : decode cL_most 142 = .ok (.ldc 81, 2) := by decide +kernel
theorem dL_most_144 : decode cL_most 144 = .ok (.if_icmp .eq 5, 3) := by decide +kernel
theorem dL_most_147 : decode cL_most 147 = .ok (.iconst 0, 1) := by decide +kernel
theorem dL_most_148 : decode cL_most 148 = .ok (.ireturn, 1) := by decide +kernel
theorem dL_most_149 : decode cL_most 149 = .ok (.iinc 1 1, 3) := by decide +kernel
theorem dL_most_152 : decode cL_most 152 = .ok (.goto (-38), 3) := by decide +kernel
theorem dL_most_155 : decode cL_most 155 = .ok (.aload_n 0, 1) := by decide +kernel
theorem dL_most_156 : decode cL_most 156 = .ok (.iconst 0, 1) := by decide +kernel
theorem dL_most_157 : decode cL_most 157 = .ok (.iconst 1, 1) := by decide +kernel
theorem dL_most_158 : decode cL_most 158 = .ok (.iconst 0, 1) := by decide +kernel
theorem dL_most_159 : decode cL_most 159 = .ok (.iconst 0, 1) := by decide +kernel
theorem dL_most_160 : decode cL_most 160 = .ok (.iconst 0, 1) := by decide +kernel
theorem dL_most_161 : decode cL_most 161 = .ok (.invokestatic 86, 3) := by decide +kernel
theorem dL_most_164 : decode cL_most 164 = .ok (.ldc 81, 2) := by decide +kernel
theorem dL_most_166 : decode cL_most 166 = .ok (.if_icmp .ne 157, 3) := by decide +kernel
theorem dL_most_169 : decode cL_most 169 = .ok (.aload_n 0, 1) := by decide +kernel
theorem dL_most_170 : decode cL_most 170 = .ok (.iconst 1, 1) := by decide +kernel
theorem dL_most_171 : decode cL_most 171 = .ok (.bipush 120, 2) := by decide +kernel
theorem dL_most_173 : decode cL_most 173 = .ok (.bipush 30, 2) := by decide +kernel
theorem dL_most_175 : decode cL_most 175 = .ok (.bipush 16, 2) := by decide +kernel
theorem dL_most_177 : decode cL_most 177 = .ok (.bipush 90, 2) := by decide +kernel
theorem dL_most_179 : decode cL_most 179 = .ok (.bipush 90, 2) := by decide +kernel
theorem dL_most_181 : decode cL_most 181 = .ok (.iconst 0, 1) := by decide +kernel
theorem dL_most_182 : decode cL_most 182 = .ok (.invokestatic 97, 3) := by decide +kernel
theorem dL_most_185 : decode cL_most 185 = .ok (.ifCond .eq 138, 3) := by decide +kernel
theorem dL_most_188 : decode cL_most 188 = .ok (.aload_n 0, 1) := by decide +kernel
theorem dL_most_189 : decode cL_most 189 = .ok (.iconst 1, 1) := by decide +kernel
theorem dL_most_190 : decode cL_most 190 = .ok (.iconst 5, 1) := by decide +kernel
theorem dL_most_191 : decode cL_most 191 = .ok (.invokevirtual 46, 3) := by decide +kernel
theorem dL_most_194 : decode cL_most 194 = .ok (.iconst 2, 1) := by decide +kernel
theorem dL_most_195 : decode cL_most 195 = .ok (.if_icmp .ne 128, 3) := by decide +kernel
theorem dL_most_198 : decode cL_most 198 = .ok (.aload_n 0, 1) := by decide +kernel
theorem dL_most_199 : decode cL_most 199 = .ok (.iconst 1, 1) := by decide +kernel
theorem dL_most_200 : decode cL_most 200 = .ok (.iconst 0, 1) := by decide +kernel
theorem dL_most_201 : decode cL_most 201 = .ok (.invokevirtual 52, 3) := by decide +kernel
theorem dL_most_204 : decode cL_most 204 = .ok (.bipush 119, 2) := by decide +kernel
theorem dL_most_206 : decode cL_most 206 = .ok (.if_icmp .ne 117, 3) := by decide +kernel
theorem dL_most_209 : decode cL_most 209 = .ok (.aload_n 0, 1) := by decide +kernel
theorem dL_most_210 : decode cL_most 210 = .ok (.iconst 1, 1) := by decide +kernel
theorem dL_most_211 : decode cL_most 211 = .ok (.bipush 89, 2) := by decide +kernel
theorem dL_most_213 : decode cL_most 213 = .ok (.invokevirtual 52, 3) := by decide +kernel
theorem dL_most_216 : decode cL_most 216 = .ok (.bipush 30, 2) := by decide +kernel
theorem dL_most_218 : decode cL_most 218 = .ok (.if_icmp .ne 105, 3) := by decide +kernel
theorem dL_most_221 : decode cL_most 221 = .ok (.aload_n 0, 1) := by decide +kernel
theorem dL_most_222 : decode cL_most 222 = .ok (.iconst 1, 1) := by decide +kernel
theorem dL_most_223 : decode cL_most 223 = .ok (.bipush 90, 2) := by decide +kernel
theorem dL_most_225 : decode cL_most 225 = .ok (.invokevirtual 52, 3) := by decide +kernel
theorem dL_most_228 : decode cL_most 228 = .ok (.ifCond .ne 95, 3) := by decide +kernel
theorem dL_most_231 : decode cL_most 231 = .ok (.aload_n 0, 1) := by decide +kernel
theorem dL_most_232 : decode cL_most 232 = .ok (.iconst 1, 1) := by decide +kernel
theorem dL_most_233 : decode cL_most 233 = .ok (.bipush 91, 2) := by decide +kernel
theorem dL_most_235 : decode cL_most 235 = .ok (.invokevirtual 52, 3) := by decide +kernel
theorem dL_most_238 : decode cL_most 238 = .ok (.iconst (-1), 1) := by decide +kernel
theorem dL_most_239 : decode cL_most 239 = .ok (.if_icmp .ne 84, 3) := by decide +kernel
theorem dL_most_242 : decode cL_most 242 = .ok (.aload_n 0, 1) := by decide +kernel
theorem dL_most_243 : decode cL_most 243 = .ok (.iconst 1, 1) := by decide +kernel
theorem dL_most_244 : decode cL_most 244 = .ok (.iconst 0, 1) := by decide +kernel
theorem dL_most_245 : decode cL_most 245 = .ok (.sipush 21845, 3) := by decide +kernel
theorem dL_most_248 : decode cL_most 248 = .ok (.invokestatic 102, 3) := by decide +kernel
theorem dL_most_251 : decode cL_most 251 = .ok (.ifCond .eq 72, 3) := by decide +kernel
theorem dL_most_254 : decode cL_most 254 = .ok (.aload_n 0, 1) := by decide +kernel
theorem dL_most_255 : decode cL_most 255 = .ok (.iconst 1, 1) := by decide +kernel
theorem dL_most_256 : decode cL_most 256 = .ok (.ldc 127, 2) := by decide +kernel
theorem dL_most_258 : decode cL_most 258 = .ok (.ldc 128, 2) := by decide +kernel
theorem dL_most_260 : decode cL_most 260 = .ok (.invokestatic 102, 3) := by decide +kernel
theorem dL_most_263 : decode cL_most 263 = .ok (.ifCond .eq 60, 3) := by decide +kernel
theorem dL_most_266 : decode cL_most 266 = .ok (.aload_n 0, 1) := by decide +kernel
theorem dL_most_267 : decode cL_most 267 = .ok (.iconst 1, 1) := by decide +kernel
theorem dL_most_268 : decode cL_most 268 = .ok (.iconst 0, 1) := by decide +kernel
theorem dL_most_269 : decode cL_most 269 = .ok (.iconst 1, 1) := by decide +kernel
theorem dL_most_270 : decode cL_most 270 = .ok (.bipush 90, 2) := by decide +kernel
theorem dL_most_272 : decode cL_most 272 = .ok (.bipush 90, 2) := by decide +kernel
theorem dL_most_274 : decode cL_most 274 = .ok (.bipush 16, 2) := by decide +kernel
theorem dL_most_276 : decode cL_most 276 = .ok (.invokestatic 108, 3) := by decide +kernel
theorem dL_most_279 : decode cL_most 279 = .ok (.ifCond .eq 44, 3) := by decide +kernel
theorem dL_most_282 : decode cL_most 282 = .ok (.aload_n 0, 1) := by decide +kernel
theorem dL_most_283 : decode cL_most 283 = .ok (.bipush 16, 2) := by decide +kernel
theorem dL_most_285 : decode cL_most 285 = .ok (.iconst 1, 1) := by decide +kernel
theorem dL_most_286 : decode cL_most 286 = .ok (.iconst 0, 1) := by decide +kernel
theorem dL_most_287 : decode cL_most 287 = .ok (.iconst 0, 1) := by decide +kernel
theorem dL_most_288 : decode cL_most 288 = .ok (.iconst 0, 1) := by decide +kernel
theorem dL_most_289 : decode cL_most 289 = .ok (.invokestatic 86, 3) := by decide +kernel
theorem dL_most_292 : decode cL_most 292 = .ok (.ldc 81, 2) := by decide +kernel
theorem dL_most_294 : decode cL_most 294 = .ok (.if_icmp .ne 29, 3) := by decide +kernel
theorem dL_most_297 : decode cL_most 297 = .ok (.aload_n 0, 1) := by decide +kernel
theorem dL_most_298 : decode cL_most 298 = .ok (.bipush 18, 2) := by decide +kernel
theorem dL_most_300 : decode cL_most 300 = .ok (.iconst 1, 1) := by decide +kernel
theorem dL_most_301 : decode cL_most 301 = .ok (.iconst 1, 1) := by decide +kernel
theorem dL_most_302 : decode cL_most 302 = .ok (.iconst 0, 1) := by decide +kernel
theorem dL_most_303 : decode cL_most 303 = .ok (.iconst 0, 1) := by decide +kernel
theorem dL_most_304 : decode cL_most 304 = .ok (.invokestatic 86, 3) := by decide +kernel
theorem dL_most_307 : decode cL_most 307 = .ok (.ldc 81, 2) := by decide +kernel
theorem dL_most_309 : decode cL_most 309 = .ok (.if_icmp .ne 14, 3) := by decide +kernel
theorem dL_most_312 : decode cL_most 312 = .ok (.aload_n 0, 1) := by decide +kernel
theorem dL_most_313 : decode cL_most 313 = .ok (.invokestatic 93, 3) := by decide +kernel
theorem dL_most_316 : decode cL_most 316 = .ok (.ifCond .eq 7, 3) := by decide +kernel
theorem dL_most_319 : decode cL_most 319 = .ok (.iconst 1, 1) := by decide +kernel
theorem dL_most_320 : decode cL_most 320 = .ok (.goto 4, 3) := by decide +kernel
theorem dL_most_323 : decode cL_most 323 = .ok (.iconst 0, 1) := by decide +kernel
theorem dL_most_324 : decode cL_most 324 = .ok (.ireturn, 1) := by decide +kernel
set_option maxRecDepth 20000 in
theorem ggL_law_L_adders : GoodIn wsL_law wsL_adders := goodIn_ca (goodIn_ca (goodIn_ca (goodIn_r _ [7, 0, 1, 2, 8, 3, 9, 10, 11, 12, 13, 14, 15, 16, 17, 18, 19, 20, 21, 22, 23, 24, 25, 26, 27, 28, 29, 30, 31, 32, 33, 34, 35, 36, 37, 38, 39, 40, 41, 42, 43, 44, 45, 46, 47, 48, 49, 50, 51, 52, 53, 54, 55, 56, 57, 58, 59, 60, 61, 62, 63, 64, 65, 66, 67, 68, 69, 70, 71, 72, 73, 74, 75, 76, 77, 78, 79, 80, 81, 82, 83, 84, 85, 86, 87, 88, 89, 90, 91, 92, 93, 94, 95, 96, 97, 98, 99, 100, 101, 102, 103, 104, 105, 106, 107, 108, 109, 110, 111, 112, 113, 114, 115, 116, 117, 118, 119, 120, 121, 122, 123, 124, 125, 126, 127, 128, 129, 130, 131, 132, 133, 134, 135, 136, 137, 6, 138, 139, 140, 141, 142, 143, 144, 145, 146, 147, 148, 149, 150, 151, 152, 153, 154, 155, 156, 157, 158, 159, 160, 161, 162, 163, 164, 165, 166, 167, 168, 169, 170, 171, 172, 173, 174, 175, 176, 177, 178, 179, 180, 181, 182, 183, 184, 185, 186, 187, 188, 189, 190, 191, 192, 193, 194, 195, 196, 197, 198, 199, 200, 201, 202, 203, 204, 205, 206, 207, 208, 209, 210, 211, 212, 213, 214, 215, 216, 217, 218, 219, 220, 221, 222, 223, 224, 225, 226, 227, 228, 229, 230, 231, 232, 233, 234, 235, 236, 237, 238, 239, 240, 241, 242, 243, 244, 245, 246, 247, 248, 249, 250, 251, 252, 253, 254, 255, 256, 257, 258, 259, 260, 261, 262, 263, 264, 265, 266, 267, 268, 269, 270, 271, 272, 273, 274, 275, 276, 277, 278, 279, 280, 281, 282, 283, 284, 285, 286, 287, 288, 289, 290, 291, 292, 293, 294, 295, 296, 297, 298, 299, 300, 301, 302, 303, 304, 305, 306, 307, 308, 309, 310, 311, 312, 313, 314, 315, 316, 317, 318, 319, 320, 321, 322, 323, 324, 325, 326, 327, 328, 329, 330, 331, 332, 333, 334, 335, 336, 337, 338, 339, 340, 341, 342, 343, 344, 345, 346, 347, 348, 349, 350, 351, 352, 353, 354, 355, 356, 357, 358, 359, 360, 361, 362, 363, 364, 365, 366, 367, 368, 369, 370, 371, 372, 373, 374, 375, 376, 377, 378, 379, 380, 381, 382, 383, 384, 385, 386, 387, 388, 389, 390, 391, 392, 393, 394, 395, 396, 397, 398, 399, 400, 401, 402, 403, 404, 405, 406, 407, 408, 409, 410, 411, 412, 413, 414, 415, 416, 417, 418, 419, 420, 421, 422, 423, 424, 425, 426, 427, 428, 429, 430, 431, 432, 433, 434, 435, 436, 437, 438, 439, 440, 441, 442, 443, 444, 445, 446, 447, 448, 449, 450, 451, 452, 453, 454, 455, 456, 457, 458, 459, 460, 461, 462, 463, 464, 465, 466, 467, 468, 469, 470, 471, 472, 473, 474, 475, 476, 477, 478, 479, 480, 481, 482, 483, 484, 485, 486, 487, 488, 489, 490, 491, 492, 493, 494, 495, 496, 497, 498, 499, 500, 501, 502, 503, 504, 505, 506, 507, 508, 509, 510, 511, 512, 513, 514, 515, 516, 517, 518, 519, 520, 521, 522, 523, 524, 525, 526, 527, 528, 529, 530, 531, 532, 533, 534, 535, 536, 537, 538, 539, 540, 541, 542, 543, 544, 545, 546, 547, 548, 549, 550, 551, 552, 553, 554, 555, 556, 557, 558, 559, 560, 561, 562, 563, 564, 565, 566, 567, 568, 569, 570, 571, 572, 573, 574, 575, 576, 577, 578, 579, 580, 581, 582, 583, 584, 585, 586, 587, 588, 589, 590, 591, 592, 593, 594, 595, 596, 597, 598, 599, 600, 601, 602, 603, 604, 605, 606, 607, 608, 609, 610, 611, 612, 613, 614, 615, 616, 617, 618, 619, 620, 621, 622, 623, 624, 625, 626, 627, 628, 629, 630, 631, 632, 633, 634, 635, 636, 637, 638, 639, 640, 641, 642, 643, 644, 645, 646, 647, 648, 649, 650, 651, 652, 653, 654, 655, 656, 657, 658, 659, 660, 661, 662, 663, 664, 665, 666, 667, 668, 669, 670, 671, 672, 673, 674, 675, 676, 677, 678, 679, 680, 681, 682, 683, 684, 685, 686, 687, 688, 689, 690, 691, 692, 693, 694, 695, 696, 697, 698, 699, 700, 701, 702, 703, 704, 705, 706, 707, 708, 709, 710, 711, 712, 713, 714, 715, 716, 717, 718, 719, 720, 721, 722, 723, 724, 725, 726, 727, 728, 729, 730, 731, 732, 733, 734, 735, 736, 737, 738, 739] (by decide +kernel) (by decide +kernel)) (goodIn_sub (fun _ h => List.mem_append_left _ (List.mem_append_left _ (List.mem_append_right _ h))) (by decide +kernel))) (goodIn_sub (fun _ h => List.mem_append_left _ (List.mem_append_right _ h)) (by decide +kernel))) (goodIn_sub (fun _ h => List.mem_append_right _ h) (by decide +kernel))
set_option maxRecDepth 20000 in
theorem gL_law_L_adders : GoodIn wsL_law (va_wsS RL 129 yL_adders wsL_adders) := goodIn_app (goodIn_of _ (by decide +kernel)) ggL_law_L_adders
set_option maxRecDepth 20000 in
theorem ggL_law_X11_init : GoodIn wsL_law wsX11_init := goodIn_r _ [12, 13, 14, 15, 16, 17, 18, 19, 20, 21, 22, 23, 24, 25, 26, 27, 28, 29, 30, 31, 32, 33, 34, 35, 36, 37, 38, 39, 40, 41, 42, 43, 44, 45, 46, 47, 48, 49, 50, 51, 52, 53, 54, 55, 56, 57, 58, 59, 60, 61, 62, 63, 64, 65, 66, 67, 68, 69, 70, 71, 72, 73, 74, 75, 76, 77, 78, 79, 80, 81, 82, 83, 84, 85, 86, 87, 88, 89, 90, 91, 92, 93, 94, 95, 96, 97, 98, 99, 100, 101, 102, 103, 104, 105, 106, 107, 108, 109, 110, 111, 112, 113, 114, 115, 116, 117, 118, 119, 120, 121, 122, 123, 124, 125, 126, 127, 128, 129, 130, 131, 132, 133, 134, 135, 690, 691, 692, 693, 694, 695, 696, 697, 698, 699, 700, 701, 702, 703, 704, 705, 706, 707, 708, 709, 710, 711, 712, 713, 714, 715, 716, 717, 718, 719, 720, 721, 722, 723, 724, 725, 726, 727, 728, 729, 730, 731, 732, 733, 734, 735, 736, 737, 738, 739] (by decide +kernel) (by decide +kernel)
set_option maxRecDepth 20000 in
theorem gL_law_X11_init : GoodIn wsL_law (wsX11_init) := ggL_law_X11_init
set_option maxRecDepth 20000 in
theorem ggL_law_X11_ofNet : GoodIn wsL_law wsX11_ofNet := goodIn_ca (goodIn_ca (goodIn_r _ [148, 34, 21, 30, 149, 150, 151, 2, 152, 153, 154, 17, 155, 156, 157, 158, 159, 160, 161, 162, 57, 163, 164, 165, 166, 167, 168, 169, 170, 171, 172, 173, 174, 175, 176, 177, 178, 22, 179, 180, 181, 182, 126, 183, 184, 185, 20, 186, 63, 187, 188, 189, 190, 191, 192, 193, 194, 33, 195, 196, 88, 197, 198, 199, 200, 201, 202, 203, 204, 205, 206, 127, 207, 208, 209, 210, 211, 128, 212, 213, 133, 134, 135, 214, 215, 216, 217, 218, 219, 220, 221, 222, 223, 224, 225, 226, 130, 227, 228, 229, 29, 230, 82, 231, 232, 233, 234, 235, 236, 237, 238, 239, 240, 241, 242, 243, 244, 245, 246, 247, 248, 249, 250, 251, 252, 253, 80, 254, 255, 256, 257, 258, 690, 691, 692, 693, 694, 695, 696, 697, 698, 699, 700, 701, 731, 732, 733, 734, 735, 736, 737, 738, 702, 716, 717, 713, 714, 715] (by decide +kernel) (by decide +kernel)) (goodIn_sub (fun _ h => List.mem_append_left _ (List.mem_append_left _ (List.mem_append_right _ h))) (by decide +kernel))) (goodIn_sub (fun _ h => List.mem_append_left _ (List.mem_append_right _ h)) (by decide +kernel))
set_option maxRecDepth 20000 in
theorem gL_law_X11_ofNet : GoodIn wsL_law (wsV RL 46 RX11 yX11_ofNet wsX11_ofNet) := goodIn_app (goodIn_of _ (by decide +kernel)) ggL_law_X11_ofNet
set_option maxRecDepth 20000 in
theorem ggL_law_X11_clear : GoodIn wsL_law wsX11_clear := goodIn_ca (goodIn_r _ [375, 149, 150, 151, 2, 152, 153, 154, 17, 160, 161, 162, 57, 163, 164, 376, 377, 378, 379, 169, 174, 690, 691, 692, 693, 694, 695, 696, 697, 698, 699, 700, 701, 731, 732, 733, 734, 735, 736, 737, 738] (by decide +kernel) (by decide +kernel)) (goodIn_sub (fun _ h => List.mem_append_left _ (List.mem_append_left _ (List.mem_append_right _ h))) (by decide +kernel))
set_option maxRecDepth 20000 in
theorem gL_law_X11_clear : GoodIn wsL_law (wsV RL 28 RX11 yX11_clear wsX11_clear) := goodIn_app (goodIn_of _ (by decide +kernel)) ggL_law_X11_clear
set_option maxRecDepth 20000 in
theorem ggL_law_L_act : GoodIn wsL_law wsL_act := goodIn_ca (goodIn_ca (goodIn_ca (goodIn_r _ [261, 262, 263, 264, 143, 144, 3, 265, 266, 267, 2, 268, 269, 270, 149, 150, 151, 152, 153, 154, 17, 271, 272, 273, 57, 274, 164, 165, 166, 167, 168, 169, 275, 276, 277, 278, 279, 280, 281, 282, 126, 127, 128, 129, 283, 133, 134, 20, 135, 63, 284, 285, 286, 287, 288, 289, 290, 291, 292, 293, 294, 295, 296, 297, 298, 299, 300, 301, 302, 303, 304, 305, 170, 171, 172, 173, 174, 306, 307, 308, 309, 130, 310, 311, 312, 313, 26, 155, 156, 157, 158, 159, 314, 315, 316, 160, 161, 162, 163, 317, 318, 319, 25, 320, 321, 322, 323, 324, 325, 326, 327, 328, 329, 330, 331, 332, 333, 334, 335, 336, 337, 338, 339, 340, 341, 68, 69, 71, 342, 343, 344, 345, 346, 70, 72, 347, 348, 349, 350, 243, 184, 185, 186, 351, 352, 353, 354, 355, 356, 357, 358, 359, 360, 361, 362, 73, 74, 363, 364, 365, 366, 367, 368, 369, 370, 371, 372, 373, 374, 375, 376, 377, 378, 379, 380, 381, 382, 383, 21, 22, 191, 132, 384, 385, 386, 387, 388, 389, 390, 391, 183, 392, 393, 394, 395, 396, 397, 398, 399, 400, 38, 401, 402, 403, 37, 404, 405, 406, 407, 408, 96, 97, 409, 410, 180, 181, 182, 411, 412, 413, 414, 415, 416, 417, 418, 419, 188, 189, 190, 420, 204, 205, 206, 421, 422, 423, 95, 424, 103, 425, 209, 210, 211, 426, 427, 428, 429, 430, 431, 432, 433, 434, 435, 224, 225, 226, 436, 437, 438, 439, 440, 441, 442, 443, 444, 445, 446, 447, 448, 449, 450, 451, 30, 452, 453, 454, 455, 29, 456, 80, 81, 232, 233, 234, 235, 254, 255, 256, 257, 258, 236, 249, 237, 238, 245, 457, 458, 459, 460, 461, 246, 145, 146, 147, 148, 34, 175, 176, 177, 178, 179, 187, 192, 193, 194, 33, 195, 196, 88, 197, 198, 199, 200, 201, 202, 203, 207, 208, 212, 213, 214, 215, 216, 217, 218, 219, 220, 221, 222, 223, 227, 228, 229, 230, 82, 231, 239, 240, 241, 242, 244, 247, 248, 250, 251, 252, 253, 462, 463, 464, 465, 466, 467, 468, 469, 470, 471, 472, 473, 474, 475, 476, 477, 478, 479, 480, 481, 482, 47, 39, 43, 483, 484, 485, 486, 487, 488, 489, 490, 491, 492, 42, 493, 494, 495, 496, 497, 498, 499, 500, 501, 502, 503, 46, 504, 505, 506, 507, 508, 509, 510, 511, 512, 513, 514, 515, 516, 517, 518, 519, 111, 520, 521, 522, 523, 524, 525, 526, 527, 528, 529, 530, 531, 532, 533, 534, 535, 536, 537, 538, 539, 540, 541, 542, 543, 544, 545, 546, 547, 548, 549, 550, 551, 552, 553, 554, 555, 556, 557, 558, 559, 560, 561, 562, 563, 564, 51, 565, 566, 567, 50, 568, 117, 569, 570, 571, 572, 573, 574, 575, 576, 577, 578, 579, 580, 581, 582, 583, 584, 585, 586, 587, 588, 589, 590, 591, 592, 593, 594, 595, 596, 597, 598, 55, 599, 600, 601, 602, 603, 604, 54, 605, 606, 607, 608, 609, 610, 611, 612, 613, 614, 615, 616, 617, 618, 619, 620, 621, 622, 623, 624, 625, 626, 627, 628, 629, 630, 631, 632, 633, 634, 635, 636, 637, 638, 639, 640, 641, 642, 643, 644, 645, 646, 647, 648, 649, 650, 651, 652, 653, 654, 655, 656, 657, 658, 659, 690, 691, 692, 693, 694, 695, 696, 697, 698, 699, 700, 701, 731, 732, 733, 734, 735, 736, 737, 738, 702, 703, 704, 705, 706, 707, 708, 709, 710, 711, 712, 718, 719, 739, 713, 714, 715, 716, 717, 720, 721, 722, 723, 724, 725, 726, 727, 728, 729, 730] (by decide +kernel) (by decide +kernel)) (goodIn_sub (fun _ h => List.mem_append_right _ h) (by decide +kernel))) (goodIn_sub (fun _ h => List.mem_append_left _ (List.mem_append_left _ (List.mem_append_right _ h))) (by decide +kernel))) (goodIn_sub (fun _ h => List.mem_append_left _ (List.mem_append_right _ h)) (by decide +kernel))
set_option maxRecDepth 20000 in
theorem gL_law_L_act : GoodIn wsL_law (va_wsS RL 86 yL_act wsL_act) := goodIn_app (goodIn_of _ (by decide +kernel)) ggL_law_L_act
set_option maxRecDepth 20000 in
theorem ggL_law_X11_time : GoodIn wsL_law wsX11_time := goodIn_ca (goodIn_r _ [465, 34, 21, 149, 150, 151, 2, 152, 153, 154, 17, 291, 292, 293, 294, 295, 296, 57, 297, 164, 192, 193, 194, 33, 195, 196, 88, 197, 198, 199, 200, 201, 161, 162, 163, 202, 180, 181, 182, 126, 183, 184, 185, 20, 186, 63, 203, 204, 205, 206, 127, 207, 208, 209, 210, 211, 128, 212, 188, 189, 190, 213, 133, 134, 135, 466, 467, 468, 469, 690, 691, 692, 693, 694, 695, 696, 697, 698, 699, 700, 701, 731, 732, 733, 734, 735, 736, 737, 738, 716, 717, 702] (by decide +kernel) (by decide +kernel)) (goodIn_sub (fun _ h => List.mem_append_left _ (List.mem_append_left _ (List.mem_append_right _ h))) (by decide +kernel))
set_option maxRecDepth 20000 in
theorem gL_law_X11_time : GoodIn wsL_law (wsV RL 49 RX11 yX11_time wsX11_time) := goodIn_app (goodIn_of _ (by decide +kernel)) ggL_law_X11_time
set_option maxRecDepth 20000 in
theorem ggL_law_X11_stick : GoodIn wsL_law wsX11_stick := goodIn_ca (goodIn_ca (goodIn_r _ [387, 149, 150, 151, 2, 152, 153, 154, 17, 291, 292, 293, 294, 295, 296, 57, 297, 164, 155, 156, 157, 158, 159, 388, 389, 390, 391, 129, 183, 184, 185, 20, 186, 63, 392, 393, 394, 395, 283, 133, 134, 135, 690, 691, 692, 693, 694, 695, 696, 697, 698, 699, 700, 701, 731, 732, 733, 734, 735, 736, 737, 738, 702] (by decide +kernel) (by decide +kernel)) (goodIn_sub (fun _ h => List.mem_append_left _ (List.mem_append_left _ (List.mem_append_right _ h))) (by decide +kernel))) (goodIn_sub (fun _ h => List.mem_append_left _ (List.mem_append_right _ h)) (by decide +kernel))
set_option maxRecDepth 20000 in
theorem gL_law_X11_stick : GoodIn wsL_law (wsV RL 34 RX11 yX11_stick wsX11_stick) := goodIn_app (goodIn_of _ (by decide +kernel)) ggL_law_X11_stick
set_option maxRecDepth 20000 in
theorem ggL_law_X11_cost : GoodIn wsL_law wsX11_cost := goodIn_ca (goodIn_ca (goodIn_r _ [383, 21, 22, 288, 289, 2, 290, 153, 154, 155, 156, 157, 158, 159, 191, 184, 185, 20, 186, 63, 132, 133, 134, 135, 690, 691, 692, 693, 694, 695, 696, 697, 698, 699, 700, 701, 702] (by decide +kernel) (by decide +kernel)) (goodIn_sub (fun _ h => List.mem_append_left _ (List.mem_append_left _ (List.mem_append_right _ h))) (by decide +kernel))) (goodIn_sub (fun _ h => List.mem_append_left _ (List.mem_append_right _ h)) (by decide +kernel))
set_option maxRecDepth 20000 in
theorem gL_law_X11_cost : GoodIn wsL_law (wsV RL 31 RX11 yX11_cost wsX11_cost) := goodIn_app (goodIn_of _ (by decide +kernel)) ggL_law_X11_cost
set_option maxRecDepth 20000 in
theorem ggL_law_X11_value : GoodIn wsL_law wsX11_value := goodIn_ca (goodIn_ca (goodIn_r _ [443, 400, 38, 149, 150, 151, 2, 152, 153, 154, 17, 155, 156, 157, 158, 159, 401, 402, 403, 37, 404, 405, 406, 407, 408, 96, 97, 409, 161, 162, 57, 163, 164, 410, 180, 181, 182, 126, 183, 184, 185, 20, 186, 63, 411, 412, 413, 414, 415, 416, 417, 418, 419, 188, 189, 190, 420, 204, 205, 206, 127, 421, 422, 423, 95, 424, 103, 425, 209, 210, 211, 128, 426, 427, 428, 429, 389, 390, 391, 129, 430, 431, 432, 433, 434, 171, 172, 173, 174, 435, 224, 225, 226, 130, 444, 445, 446, 447, 690, 691, 692, 693, 694, 695, 696, 697, 698, 699, 700, 701, 718, 719, 731, 732, 733, 734, 735, 736, 737, 738, 702, 739] (by decide +kernel) (by decide +kernel)) (goodIn_sub (fun _ h => List.mem_append_left _ (List.mem_append_left _ (List.mem_append_right _ h))) (by decide +kernel))) (goodIn_sub (fun _ h => List.mem_append_left _ (List.mem_append_right _ h)) (by decide +kernel))
set_option maxRecDepth 20000 in
theorem gL_law_X11_value : GoodIn wsL_law (wsV RL 40 RX11 yX11_value wsX11_value) := goodIn_app (goodIn_of _ (by decide +kernel)) ggL_law_X11_value
set_option maxRecDepth 20000 in
theorem ggL_law_X11_valueAnew : GoodIn wsL_law wsX11_valueAnew := goodIn_ca (goodIn_ca (goodIn_r _ [451, 400, 30, 149, 150, 151, 2, 152, 153, 154, 17, 155, 156, 157, 158, 159, 170, 171, 172, 57, 173, 174, 452, 224, 225, 226, 130, 183, 184, 185, 20, 186, 63, 453, 454, 455, 29, 456, 80, 81, 232, 233, 234, 235, 254, 133, 134, 135, 255, 256, 257, 258, 236, 161, 162, 163, 164, 249, 237, 180, 181, 182, 126, 238, 204, 205, 206, 127, 245, 209, 210, 211, 128, 457, 458, 459, 460, 461, 389, 390, 391, 129, 246, 188, 189, 190, 426, 427, 428, 690, 691, 692, 693, 694, 695, 696, 697, 698, 699, 700, 701, 731, 732, 733, 734, 735, 736, 737, 738, 702, 713, 714, 715] (by decide +kernel) (by decide +kernel)) (goodIn_sub (fun _ h => List.mem_append_left _ (List.mem_append_left _ (List.mem_append_right _ h))) (by decide +kernel))) (goodIn_sub (fun _ h => List.mem_append_left _ (List.mem_append_right _ h)) (by decide +kernel))
set_option maxRecDepth 20000 in
theorem gL_law_X11_valueAnew : GoodIn wsL_law (wsV RL 43 RX11 yX11_valueAnew wsX11_valueAnew) := goodIn_app (goodIn_of _ (by decide +kernel)) ggL_law_X11_valueAnew
set_option maxRecDepth 20000 in
theorem ggL_law_X11_changes : GoodIn wsL_law wsX11_changes := goodIn_ca (goodIn_ca (goodIn_r _ [482, 47, 21, 38, 39, 34, 43, 149, 150, 151, 2, 152, 153, 154, 17, 483, 484, 485, 400, 155, 156, 157, 158, 159, 486, 487, 488, 489, 192, 193, 194, 33, 195, 196, 88, 197, 198, 199, 200, 201, 161, 162, 57, 163, 164, 202, 180, 181, 182, 126, 183, 184, 185, 20, 186, 63, 203, 204, 205, 206, 127, 207, 208, 209, 210, 211, 128, 212, 188, 189, 190, 213, 133, 134, 135, 401, 402, 403, 37, 404, 405, 406, 407, 408, 96, 97, 409, 410, 411, 412, 413, 414, 415, 416, 417, 418, 419, 420, 421, 422, 423, 95, 424, 103, 425, 426, 427, 428, 429, 389, 390, 391, 129, 430, 431, 432, 433, 434, 171, 172, 173, 174, 435, 224, 225, 226, 130, 490, 491, 492, 42, 493, 494, 495, 496, 497, 498, 499, 500, 501, 502, 503, 46, 504, 505, 506, 507, 508, 509, 510, 511, 512, 513, 514, 515, 516, 517, 518, 519, 111, 520, 521, 522, 523, 524, 525, 526, 527, 528, 529, 530, 531, 532, 533, 534, 535, 536, 537, 538, 539, 540, 541, 542, 543, 544, 545, 546, 547, 548, 549, 550, 551, 552, 553, 554, 555, 556, 557, 558, 559, 560, 690, 691, 692, 693, 694, 695, 696, 697, 698, 699, 700, 701, 716, 717, 731, 732, 733, 734, 735, 736, 737, 738, 702, 718, 719, 739, 720, 721, 722, 723, 724] (by decide +kernel) (by decide +kernel)) (goodIn_sub (fun _ h => List.mem_append_left _ (List.mem_append_left _ (List.mem_append_right _ h))) (by decide +kernel))) (goodIn_sub (fun _ h => List.mem_append_left _ (List.mem_append_right _ h)) (by decide +kernel))
set_option maxRecDepth 20000 in
theorem gL_law_X11_changes : GoodIn wsL_law (wsV RL 55 RX11 yX11_changes wsX11_changes) := goodIn_app (goodIn_of _ (by decide +kernel)) ggL_law_X11_changes
set_option maxRecDepth 20000 in
theorem ggL_law_L_changes : GoodIn wsL_law wsL_changes := goodIn_ca (goodIn_ca (goodIn_r _ [671, 479, 480, 481, 2, 482, 47, 21, 38, 39, 34, 43, 149, 150, 151, 152, 153, 154, 17, 483, 484, 485, 400, 155, 156, 157, 158, 159, 486, 487, 488, 489, 192, 193, 194, 33, 195, 196, 88, 197, 198, 199, 200, 201, 161, 162, 57, 163, 164, 202, 180, 181, 182, 126, 183, 184, 185, 20, 186, 63, 203, 204, 205, 206, 127, 207, 208, 209, 210, 211, 128, 212, 188, 189, 190, 213, 133, 134, 135, 401, 402, 403, 37, 404, 405, 406, 407, 408, 96, 97, 409, 410, 411, 412, 413, 414, 415, 416, 417, 418, 419, 420, 421, 422, 423, 95, 424, 103, 425, 426, 427, 428, 429, 389, 390, 391, 129, 430, 431, 432, 433, 434, 171, 172, 173, 174, 435, 224, 225, 226, 130, 490, 491, 492, 42, 493, 494, 495, 496, 497, 498, 499, 500, 501, 502, 503, 46, 504, 505, 506, 507, 508, 509, 510, 511, 512, 513, 514, 515, 516, 517, 518, 519, 111, 520, 521, 522, 523, 524, 525, 526, 527, 528, 529, 530, 531, 532, 533, 534, 535, 536, 537, 538, 539, 540, 541, 542, 543, 544, 545, 546, 547, 548, 549, 550, 551, 552, 553, 554, 555, 556, 557, 558, 559, 560, 561, 562, 563, 564, 51, 565, 566, 567, 50, 568, 117, 569, 570, 437, 438, 439, 571, 572, 573, 574, 575, 576, 577, 578, 579, 580, 581, 582, 583, 584, 585, 586, 587, 588, 589, 590, 591, 592, 593, 594, 690, 691, 692, 693, 694, 695, 696, 697, 698, 699, 700, 701, 716, 717, 731, 732, 733, 734, 735, 736, 737, 738, 702, 718, 719, 739, 720, 721, 722, 723, 724, 725] (by decide +kernel) (by decide +kernel)) (goodIn_sub (fun _ h => List.mem_append_left _ (List.mem_append_left _ (List.mem_append_right _ h))) (by decide +kernel))) (goodIn_sub (fun _ h => List.mem_append_left _ (List.mem_append_right _ h)) (by decide +kernel))
set_option maxRecDepth 20000 in
theorem gL_law_L_changes : GoodIn wsL_law (va_wsS RL 108 yL_changes wsL_changes) := goodIn_app (goodIn_of _ (by decide +kernel)) ggL_law_L_changes
set_option maxRecDepth 20000 in
theorem ggL_law_X11_unlike : GoodIn wsL_law wsX11_unlike := goodIn_ca (goodIn_ca (goodIn_r _ [648, 269, 270, 38, 39, 649, 506, 199, 507, 149, 150, 151, 2, 152, 153, 154, 17, 165, 166, 167, 57, 168, 169, 650, 621, 622, 37, 623, 405, 406, 407, 408, 96, 97, 409, 161, 162, 163, 164, 410, 180, 181, 182, 126, 183, 184, 185, 20, 186, 63, 411, 412, 413, 414, 415, 416, 417, 418, 419, 188, 189, 190, 420, 204, 205, 206, 127, 421, 422, 423, 95, 424, 103, 425, 209, 210, 211, 128, 426, 427, 428, 429, 389, 390, 391, 129, 430, 431, 432, 433, 434, 171, 172, 173, 174, 435, 224, 225, 226, 130, 651, 652, 653, 654, 690, 691, 692, 693, 694, 695, 696, 697, 698, 699, 700, 701, 731, 732, 733, 734, 735, 736, 737, 738, 718, 719, 702, 739] (by decide +kernel) (by decide +kernel)) (goodIn_sub (fun _ h => List.mem_append_right _ h) (by decide +kernel))) (goodIn_sub (fun _ h => List.mem_append_left _ (List.mem_append_left _ (List.mem_append_right _ h))) (by decide +kernel))
set_option maxRecDepth 20000 in
theorem gL_law_X11_unlike : GoodIn wsL_law (wsV RL 67 RX11 yX11_unlike wsX11_unlike) := goodIn_app (goodIn_of _ (by decide +kernel)) ggL_law_X11_unlike
set_option maxRecDepth 20000 in
theorem ggL_law_X11_path : GoodIn wsL_law wsX11_path := goodIn_ca (goodIn_r _ [473, 153, 154, 34, 21, 149, 150, 151, 2, 152, 17, 192, 193, 194, 33, 195, 196, 88, 197, 198, 199, 200, 201, 161, 162, 57, 163, 164, 202, 180, 181, 182, 126, 183, 184, 185, 20, 186, 63, 203, 204, 205, 206, 127, 207, 208, 209, 210, 211, 128, 212, 188, 189, 190, 213, 133, 134, 135, 474, 219, 220, 221, 222, 171, 172, 173, 174, 223, 224, 225, 226, 130, 475, 476, 477, 478, 690, 691, 692, 693, 694, 695, 696, 697, 698, 699, 700, 701, 716, 717, 731, 732, 733, 734, 735, 736, 737, 738, 702] (by decide +kernel) (by decide +kernel)) (goodIn_sub (fun _ h => List.mem_append_left _ (List.mem_append_left _ (List.mem_append_right _ h))) (by decide +kernel))
set_option maxRecDepth 20000 in
theorem gL_law_X11_path : GoodIn wsL_law (wsV RL 52 RX11 yX11_path wsX11_path) := goodIn_app (goodIn_of _ (by decide +kernel)) ggL_law_X11_path
set_option maxRecDepth 20000 in
theorem ggL_law_L_refuses : GoodIn wsL_law wsL_refuses := goodIn_ca (goodIn_ca (goodIn_ca (goodIn_r _ [138, 139, 140, 141, 142, 143, 144, 3, 145, 146, 147, 2, 148, 34, 21, 30, 149, 150, 151, 152, 153, 154, 17, 155, 156, 157, 158, 159, 160, 161, 162, 57, 163, 164, 165, 166, 167, 168, 169, 170, 171, 172, 173, 174, 175, 176, 177, 178, 22, 179, 180, 181, 182, 126, 183, 184, 185, 20, 186, 63, 187, 188, 189, 190, 191, 192, 193, 194, 33, 195, 196, 88, 197, 198, 199, 200, 201, 202, 203, 204, 205, 206, 127, 207, 208, 209, 210, 211, 128, 212, 213, 133, 134, 135, 214, 215, 216, 217, 218, 219, 220, 221, 222, 223, 224, 225, 226, 130, 227, 228, 229, 29, 230, 82, 231, 232, 233, 234, 235, 236, 237, 238, 239, 240, 241, 242, 243, 244, 245, 246, 247, 248, 249, 250, 251, 252, 253, 80, 254, 255, 256, 257, 258, 259, 260, 6, 261, 262, 263, 264, 265, 266, 267, 268, 269, 270, 271, 272, 273, 274, 275, 276, 277, 278, 279, 280, 281, 282, 129, 283, 284, 285, 286, 287, 288, 289, 290, 291, 292, 293, 294, 295, 296, 297, 298, 299, 300, 301, 302, 303, 304, 305, 306, 307, 308, 309, 310, 311, 312, 313, 26, 314, 315, 316, 317, 318, 319, 25, 320, 321, 322, 323, 324, 325, 326, 327, 328, 329, 330, 331, 332, 333, 334, 335, 336, 337, 338, 339, 340, 341, 68, 69, 71, 342, 343, 344, 345, 346, 70, 72, 347, 348, 349, 350, 351, 352, 353, 354, 355, 356, 357, 358, 359, 360, 361, 362, 73, 74, 363, 364, 365, 366, 367, 368, 369, 370, 371, 372, 373, 374, 375, 376, 377, 378, 379, 380, 381, 382, 383, 132, 384, 385, 386, 387, 388, 389, 390, 391, 392, 393, 394, 395, 396, 397, 398, 399, 400, 38, 401, 402, 403, 37, 404, 405, 406, 407, 408, 96, 97, 409, 410, 411, 412, 413, 414, 415, 416, 417, 418, 419, 420, 421, 422, 423, 95, 424, 103, 425, 426, 427, 428, 429, 430, 431, 432, 433, 434, 435, 436, 437, 438, 439, 440, 441, 442, 443, 444, 445, 446, 447, 448, 449, 450, 451, 452, 453, 454, 455, 456, 81, 457, 458, 459, 460, 461, 462, 463, 464, 465, 466, 467, 468, 469, 470, 471, 472, 473, 474, 475, 476, 477, 478, 479, 480, 481, 482, 47, 39, 43, 483, 484, 485, 486, 487, 488, 489, 490, 491, 492, 42, 493, 494, 495, 496, 497, 498, 499, 500, 501, 502, 503, 46, 504, 505, 506, 507, 508, 509, 510, 511, 512, 513, 514, 515, 516, 517, 518, 519, 111, 520, 521, 522, 523, 524, 525, 526, 527, 528, 529, 530, 531, 532, 533, 534, 535, 536, 537, 538, 539, 540, 541, 542, 543, 544, 545, 546, 547, 548, 549, 550, 551, 552, 553, 554, 555, 556, 557, 558, 559, 560, 561, 562, 563, 564, 51, 565, 566, 567, 50, 568, 117, 569, 570, 571, 572, 573, 574, 575, 576, 577, 578, 579, 580, 581, 582, 583, 584, 585, 586, 587, 588, 589, 590, 591, 592, 593, 594, 595, 596, 597, 598, 55, 599, 600, 601, 602, 603, 604, 54, 605, 606, 607, 608, 609, 610, 611, 612, 613, 614, 615, 616, 617, 618, 619, 620, 621, 622, 623, 624, 625, 626, 627, 628, 629, 630, 631, 632, 633, 634, 635, 636, 637, 638, 639, 640, 641, 642, 643, 644, 645, 646, 647, 648, 649, 650, 651, 652, 653, 654, 655, 656, 657, 658, 659, 690, 691, 692, 693, 694, 695, 696, 697, 698, 699, 700, 701, 731, 732, 733, 734, 735, 736, 737, 738, 702, 716, 717, 713, 714, 715, 703, 704, 705, 706, 707, 708, 709, 710, 711, 712, 718, 719, 739, 720, 721, 722, 723, 724, 725, 726, 727, 728, 729, 730] (by decide +kernel) (by decide +kernel)) (goodIn_sub (fun _ h => List.mem_append_left _ (List.mem_append_left _ (List.mem_append_right _ h))) (by decide +kernel))) (goodIn_sub (fun _ h => List.mem_append_left _ (List.mem_append_right _ h)) (by decide +kernel))) (goodIn_sub (fun _ h => List.mem_append_right _ h) (by decide +kernel))
set_option maxRecDepth 20000 in
theorem gL_law_L_refuses : GoodIn wsL_law (va_wsS RL 93 yL_refuses wsL_refuses) := goodIn_app (goodIn_of _ (by decide +kernel)) ggL_law_L_refuses
theorem dL_law_0 : decode cL_law 0 = .ok (.invokestatic 129, 3) := by decide +kernel
theorem dL_law_3 : decode cL_law 3 = .ok (.ifCond .ne 5, 3) := by decide +kernel
theorem dL_law_6 : decode cL_law 6 = .ok (.iconst 0, 1) := by decide +kernel
theorem dL_law_7 : decode cL_law 7 = .ok (.ireturn, 1) := by decide +kernel
theorem dL_law_8 : decode cL_law 8 = .ok (.new 8, 3) := by decide +kernel
theorem dL_law_11 : decode cL_law 11 = .ok (.dup, 1) := by decide +kernel
theorem dL_law_12 : decode cL_law 12 = .ok (.invokespecial 92, 3) := by decide +kernel
theorem dL_law_15 : decode cL_law 15 = .ok (.astore_n 1, 1) := by decide +kernel
theorem dL_law_16 : decode cL_law 16 = .ok (.iconst 0, 1) := by decide +kernel
theorem dL_law_17 : decode cL_law 17 = .ok (.istore_n 2, 1) := by decide +kernel
theorem dL_law_18 : decode cL_law 18 = .ok (.iload_n 2, 1) := by decide +kernel
theorem dL_law_19 : decode cL_law 19 = .ok (.bipush 70, 2) := by decide +kernel
theorem dL_law_21 : decode cL_law 21 = .ok (.if_icmp .ge 589, 3) := by decide +kernel
theorem dL_law_24 : decode cL_law 24 = .ok (.aload_n 0, 1) := by decide +kernel
theorem dL_law_25 : decode cL_law 25 = .ok (.arraylength, 1) := by decide +kernel
theorem dL_law_26 : decode cL_law 26 = .ok (.ifCond .ne 10, 3) := by decide +kernel
theorem dL_law_29 : decode cL_law 29 = .ok (.bipush 109, 2) := by decide +kernel
theorem dL_law_31 : decode cL_law 31 = .ok (.iload_n 2, 1) := by decide +kernel
theorem dL_law_32 : decode cL_law 32 = .ok (.imul, 1) := by decide +kernel
theorem dL_law_33 : decode cL_law 33 = .ok (.goto 12, 3) := by decide +kernel
theorem dL_law_36 : decode cL_law 36 = .ok (.aload_n 0, 1) := by decide +kernel
theorem dL_law_37 : decode cL_law 37 = .ok (.iload_n 2, 1) := by decide +kernel
theorem dL_law_38 : decode cL_law 38 = .ok (.aload_n 0, 1) := by decide +kernel
theorem dL_law_39 : decode cL_law 39 = .ok (.arraylength, 1) := by decide +kernel
theorem dL_law_40 : decode cL_law 40 = .ok (.irem, 1) := by decide +kernel
theorem dL_law_41 : decode cL_law 41 = .ok (.iaload, 1) := by decide +kernel
theorem dL_law_42 : decode cL_law 42 = .ok (.bipush 8, 2) := by decide +kernel
theorem dL_law_44 : decode cL_law 44 = .ok (.iushr, 1) := by decide +kernel
theorem dL_law_45 : decode cL_law 45 = .ok (.istore_n 3, 1) := by decide +kernel
theorem dL_law_46 : decode cL_law 46 = .ok (.iload_n 3, 1) := by decide +kernel
theorem dL_law_47 : decode cL_law 47 = .ok (.bipush 14, 2) := by decide +kernel
theorem dL_law_49 : decode cL_law 49 = .ok (.irem, 1) := by decide +kernel
theorem dL_law_50 : decode cL_law 50 = .ok (.istore 4, 2) := by decide +kernel
theorem dL_law_52 : decode cL_law 52 = .ok (.iload_n 3, 1) := by decide +kernel
theorem dL_law_53 : decode cL_law 53 = .ok (.bipush 14, 2) := by decide +kernel
theorem dL_law_55 : decode cL_law 55 = .ok (.idiv, 1) := by decide +kernel
theorem dL_law_56 : decode cL_law 56 = .ok (.istore 5, 2) := by decide +kernel
theorem dL_law_58 : decode cL_law 58 = .ok (.iload 5, 2) := by decide +kernel
theorem dL_law_60 : decode cL_law 60 = .ok (.bipush 100, 2) := by decide +kernel
theorem dL_law_62 : decode cL_law 62 = .ok (.idiv, 1) := by decide +kernel
theorem dL_law_63 : decode cL_law 63 = .ok (.istore 6, 2) := by decide +kernel
theorem dL_law_65 : decode cL_law 65 = .ok (.iload 5, 2) := by decide +kernel
theorem dL_law_67 : decode cL_law 67 = .ok (.iconst 4, 1) := by decide +kernel
theorem dL_law_68 : decode cL_law 68 = .ok (.irem, 1) := by decide +kernel
theorem dL_law_69 : decode cL_law 69 = .ok (.istore 7, 2) := by decide +kernel
theorem dL_law_71 : decode cL_law 71 = .ok (.aload_n 1, 1) := by decide +kernel
theorem dL_law_72 : decode cL_law 72 = .ok (.iload 7, 2) := by decide +kernel
theorem dL_law_74 : decode cL_law 74 = .ok (.iconst 0, 1) := by decide +kernel
theorem dL_law_75 : decode cL_law 75 = .ok (.invokevirtual 46, 3) := by decide +kernel
theorem dL_law_78 : decode cL_law 78 = .ok (.istore 8, 2) := by decide +kernel
theorem dL_law_80 : decode cL_law 80 = .ok (.aload_n 1, 1) := by decide +kernel
theorem dL_law_81 : decode cL_law 81 = .ok (.iload 7, 2) := by decide +kernel
theorem dL_law_83 : decode cL_law 83 = .ok (.iconst 1, 1) := by decide +kernel
theorem dL_law_84 : decode cL_law 84 = .ok (.invokevirtual 46, 3) := by decide +kernel
theorem dL_law_87 : decode cL_law 87 = .ok (.istore 9, 2) := by decide +kernel
theorem dL_law_89 : decode cL_law 89 = .ok (.iload 4, 2) := by decide +kernel
theorem dL_law_91 : decode cL_law 91 = .ok (.ifCond .ne 41, 3) := by decide +kernel
theorem dL_law_94 : decode cL_law 94 = .ok (.iload 5, 2) := by decide +kernel
theorem dL_law_96 : decode cL_law 96 = .ok (.iconst 5, 1) := by decide +kernel
theorem dL_law_97 : decode cL_law 97 = .ok (.irem, 1) := by decide +kernel
theorem dL_law_98 : decode cL_law 98 = .ok (.ifCond .ne 34, 3) := by decide +kernel
theorem dL_law_101 : decode cL_law 101 = .ok (.aload_n 1, 1) := by decide +kernel
theorem dL_law_102 : decode cL_law 102 = .ok (.iload 7, 2) := by decide +kernel
theorem dL_law_104 : decode cL_law 104 = .ok (.invokevirtual 28, 3) := by decide +kernel
theorem dL_law_107 : decode cL_law 107 = .ok (.iload 8, 2) := by decide +kernel
theorem dL_law_109 : decode cL_law 109 = .ok (.if_icmp .ne 21, 3) := by decide +kernel
theorem dL_law_112 : decode cL_law 112 = .ok (.aload_n 1, 1) := by decide +kernel
theorem dL_law_113 : decode cL_law 113 = .ok (.iload 7, 2) := by decide +kernel
theorem dL_law_115 : decode cL_law 115 = .ok (.iconst 1, 1) := by decide +kernel
theorem dL_law_116 : decode cL_law 116 = .ok (.invokevirtual 46, 3) := by decide +kernel
theorem dL_law_119 : decode cL_law 119 = .ok (.aload_n 1, 1) := by decide +kernel
theorem dL_law_120 : decode cL_law 120 = .ok (.iload 7, 2) := by decide +kernel
theorem dL_law_122 : decode cL_law 122 = .ok (.iconst 2, 1) := by decide +kernel
theorem dL_law_123 : decode cL_law 123 = .ok (.invokevirtual 46, 3) := by decide +kernel
theorem dL_law_126 : decode cL_law 126 = .ok (.iadd, 1) := by decide +kernel
theorem dL_law_127 : decode cL_law 127 = .ok (.ifCond .eq 461, 3) := by decide +kernel
theorem dL_law_130 : decode cL_law 130 = .ok (.iconst 0, 1) := by decide +kernel
theorem dL_law_131 : decode cL_law 131 = .ok (.ireturn, 1) := by decide +kernel
theorem dL_law_132 : decode cL_law 132 = .ok (.iload 4, 2) := by decide +kernel
theorem dL_law_134 : decode cL_law 134 = .ok (.iconst 3, 1) := by decide +kernel
theorem dL_law_135 : decode cL_law 135 = .ok (.if_icmp .lt 8, 3) := by decide +kernel
theorem dL_law_138 : decode cL_law 138 = .ok (.iload 8, 2) := by decide +kernel
theorem dL_law_140 : decode cL_law 140 = .ok (.ifCond .ne 39, 3) := by decide +kernel
theorem dL_law_143 : decode cL_law 143 = .ok (.aload_n 1, 1) := by decide +kernel
theorem dL_law_144 : decode cL_law 144 = .ok (.iconst 0, 1) := by decide +kernel
theorem dL_law_145 : decode cL_law 145 = .ok (.iload 7, 2) := by decide +kernel
theorem dL_law_147 : decode cL_law 147 = .ok (.iconst 0, 1) := by decide +kernel
theorem dL_law_148 : decode cL_law 148 = .ok (.iconst 0, 1) := by decide +kernel
theorem dL_law_149 : decode cL_law 149 = .ok (.iconst 0, 1) := by decide +kernel
theorem dL_law_150 : decode cL_law 150 = .ok (.invokestatic 86, 3) := by decide +kernel
theorem dL_law_153 : decode cL_law 153 = .ok (.iload 8, 2) := by decide +kernel
theorem dL_law_155 : decode cL_law 155 = .ok (.bipush 120, 2) := by decide +kernel
theorem dL_law_157 : decode cL_law 157 = .ok (.if_icmp .ge 15, 3) := by decide +kernel
theorem dL_law_160 : decode cL_law 160 = .ok (.iload 9, 2) := by decide +kernel
theorem dL_law_162 : decode cL_law 162 = .ok (.bipush 30, 2) := by decide +kernel
theorem dL_law_164 : decode cL_law 164 = .ok (.if_icmp .ge 8, 3) := by decide +kernel
theorem dL_law_167 : decode cL_law 167 = .ok (.iload 8, 2) := by decide +kernel
theorem dL_law_169 : decode cL_law 169 = .ok (.goto 5, 3) := by decide +kernel
theorem dL_law_172 : decode cL_law 172 = .ok (.ldc 81, 2) := by decide +kernel
theorem dL_law_174 : decode cL_law 174 = .ok (.if_icmp .eq 414, 3) := by decide +kernel
theorem dL_law_177 : decode cL_law 177 = .ok (.iconst 0, 1) := by decide +kernel
theorem dL_law_178 : decode cL_law 178 = .ok (.ireturn, 1) := by decide +kernel
theorem dL_law_179 : decode cL_law 179 = .ok (.iload 4, 2) := by decide +kernel
theorem dL_law_181 : decode cL_law 181 = .ok (.bipush 7, 2) := by decide +kernel
theorem dL_law_183 : decode cL_law 183 = .ok (.if_icmp .ge 83, 3) := by decide +kernel
theorem dL_law_186 : decode cL_law 186 = .ok (.iload 6, 2) := by decide +kernel
theorem dL_law_188 : decode cL_law 188 = .ok (.iload 8, 2) := by decide +kernel
theorem dL_law_190 : decode cL_law 190 = .ok (.irem, 1) := by decide +kernel
theorem dL_law_191 : decode cL_law 191 = .ok (.istore 10, 2) := by decide +kernel
theorem dL_law_193 : decode cL_law 193 = .ok (.aload_n 1, 1) := by decide +kernel
theorem dL_law_194 : decode cL_law 194 = .ok (.iconst 1, 1) := by decide +kernel
theorem dL_law_195 : decode cL_law 195 = .ok (.iload 7, 2) := by decide +kernel
theorem dL_law_197 : decode cL_law 197 = .ok (.iload 5, 2) := by decide +kernel
theorem dL_law_199 : decode cL_law 199 = .ok (.iconst 4, 1) := by decide +kernel
theorem dL_law_200 : decode cL_law 200 = .ok (.idiv, 1) := by decide +kernel
theorem dL_law_201 : decode cL_law 201 = .ok (.iconst 4, 1) := by decide +kernel
theorem dL_law_202 : decode cL_law 202 = .ok (.irem, 1) := by decide +kernel
theorem dL_law_203 : decode cL_law 203 = .ok (.iload 10, 2) := by decide +kernel
theorem dL_law_205 : decode cL_law 205 = .ok (.iload 5, 2) := by decide +kernel
theorem dL_law_207 : decode cL_law 207 = .ok (.bipush 16, 2) := by decide +kernel
theorem dL_law_209 : decode cL_law 209 = .ok (.idiv, 1) := by decide +kernel
theorem dL_law_210 : decode cL_law 210 = .ok (.iload 8, 2) := by decide +kernel
theorem dL_law_212 : decode cL_law 212 = .ok (.irem, 1) := by decide +kernel
theorem dL_law_213 : decode cL_law 213 = .ok (.invokestatic 86, 3) := by decide +kernel
theorem dL_law_216 : decode cL_law 216 = .ok (.iload 8, 2) := by decide +kernel
theorem dL_law_218 : decode cL_law 218 = .ok (.bipush 120, 2) := by decide +kernel
theorem dL_law_220 : decode cL_law 220 = .ok (.if_icmp .ge 8, 3) := by decide +kernel
theorem dL_law_223 : decode cL_law 223 = .ok (.iload 8, 2) := by decide +kernel
theorem dL_law_225 : decode cL_law 225 = .ok (.goto 5, 3) := by decide +kernel
theorem dL_law_228 : decode cL_law 228 = .ok (.ldc 81, 2) := by decide +kernel
theorem dL_law_230 : decode cL_law 230 = .ok (.if_icmp .eq 5, 3) := by decide +kernel
theorem dL_law_233 : decode cL_law 233 = .ok (.iconst 0, 1) := by decide +kernel
theorem dL_law_234 : decode cL_law 234 = .ok (.ireturn, 1) := by decide +kernel
theorem dL_law_235 : decode cL_law 235 = .ok (.iload 8, 2) := by decide +kernel
theorem dL_law_237 : decode cL_law 237 = .ok (.bipush 120, 2) := by decide +kernel
theorem dL_law_239 : decode cL_law 239 = .ok (.if_icmp .ge 24, 3) := by decide +kernel
theorem dL_law_242 : decode cL_law 242 = .ok (.aload_n 1, 1) := by decide +kernel
theorem dL_law_243 : decode cL_law 243 = .ok (.iload 7, 2) := by decide +kernel
theorem dL_law_245 : decode cL_law 245 = .ok (.iload 8, 2) := by decide +kernel
theorem dL_law_247 : decode cL_law 247 = .ok (.invokevirtual 49, 3) := by decide +kernel
theorem dL_law_250 : decode cL_law 250 = .ok (.aload_n 1, 1) := by decide +kernel
theorem dL_law_251 : decode cL_law 251 = .ok (.iload 7, 2) := by decide +kernel
theorem dL_law_253 : decode cL_law 253 = .ok (.iload 10, 2) := by decide +kernel
theorem dL_law_255 : decode cL_law 255 = .ok (.invokevirtual 49, 3) := by decide +kernel
theorem dL_law_258 : decode cL_law 258 = .ok (.if_icmp .gt 5, 3) := by decide +kernel
theorem dL_law_261 : decode cL_law 261 = .ok (.iconst 0, 1) := by decide +kernel
theorem dL_law_262 : decode cL_law 262 = .ok (.ireturn, 1) := by decide +kernel
theorem dL_law_263 : decode cL_law 263 = .ok (.goto 325, 3) := by decide +kernel
theorem dL_law_266 : decode cL_law 266 = .ok (.iload 4, 2) := by decide +kernel
theorem dL_law_268 : decode cL_law 268 = .ok (.bipush 9, 2) := by decide +kernel
theorem dL_law_270 : decode cL_law 270 = .ok (.if_icmp .ge 48, 3) := by decide +kernel
theorem dL_law_273 : decode cL_law 273 = .ok (.aload_n 1, 1) := by decide +kernel
theorem dL_law_274 : decode cL_law 274 = .ok (.iload 7, 2) := by decide +kernel
theorem dL_law_276 : decode cL_law 276 = .ok (.iconst 2, 1) := by decide +kernel
theorem dL_law_277 : decode cL_law 277 = .ok (.invokevirtual 46, 3) := by decide +kernel
theorem dL_law_280 : decode cL_law 280 = .ok (.istore 10, 2) := by decide +kernel
theorem dL_law_282 : decode cL_law 282 = .ok (.aload_n 1, 1) := by decide +kernel
theorem dL_law_283 : decode cL_law 283 = .ok (.iconst 2, 1) := by decide +kernel
theorem dL_law_284 : decode cL_law 284 = .ok (.iload 7, 2) := by decide +kernel
theorem dL_law_286 : decode cL_law 286 = .ok (.iload 6, 2) := by decide +kernel
theorem dL_law_288 : decode cL_law 288 = .ok (.iload 8, 2) := by decide +kernel
theorem dL_law_290 : decode cL_law 290 = .ok (.irem, 1) := by decide +kernel
theorem dL_law_291 : decode cL_law 291 = .ok (.iconst 0, 1) := by decide +kernel
theorem dL_law_292 : decode cL_law 292 = .ok (.iconst 0, 1) := by decide +kernel
theorem dL_law_293 : decode cL_law 293 = .ok (.invokestatic 86, 3) := by decide +kernel
theorem dL_law_296 : decode cL_law 296 = .ok (.iload 10, 2) := by decide +kernel
theorem dL_law_298 : decode cL_law 298 = .ok (.bipush 16, 2) := by decide +kernel
theorem dL_law_300 : decode cL_law 300 = .ok (.if_icmp .ge 8, 3) := by decide +kernel
theorem dL_law_303 : decode cL_law 303 = .ok (.iload 10, 2) := by decide +kernel
theorem dL_law_305 : decode cL_law 305 = .ok (.goto 5, 3) := by decide +kernel
theorem dL_law_308 : decode cL_law 308 = .ok (.ldc 81, 2) := by decide +kernel
theorem dL_law_310 : decode cL_law 310 = .ok (.if_icmp .eq 5, 3) := by decide +kernel
theorem dL_law_313 : decode cL_law 313 = .ok (.iconst 0, 1) := by decide +kernel
theorem dL_law_314 : decode cL_law 314 = .ok (.ireturn, 1) := by decide +kernel
theorem dL_law_315 : decode cL_law 315 = .ok (.goto 273, 3) := by decide +kernel
theorem dL_law_318 : decode cL_law 318 = .ok (.iload 4, 2) := by decide +kernel
theorem dL_law_320 : decode cL_law 320 = .ok (.bipush 9, 2) := by decide +kernel
theorem dL_law_322 : decode cL_law 322 = .ok (.if_icmp .ne 65, 3) := by decide +kernel
theorem dL_law_325 : decode cL_law 325 = .ok (.aload_n 1, 1) := by decide +kernel
theorem dL_law_326 : decode cL_law 326 = .ok (.iload 7, 2) := by decide +kernel
theorem dL_law_328 : decode cL_law 328 = .ok (.iload 6, 2) := by decide +kernel
theorem dL_law_330 : decode cL_law 330 = .ok (.iload 8, 2) := by decide +kernel
theorem dL_law_332 : decode cL_law 332 = .ok (.irem, 1) := by decide +kernel
theorem dL_law_333 : decode cL_law 333 = .ok (.iload 5, 2) := by decide +kernel
theorem dL_law_335 : decode cL_law 335 = .ok (.iconst 4, 1) := by decide +kernel
theorem dL_law_336 : decode cL_law 336 = .ok (.idiv, 1) := by decide +kernel
theorem dL_law_337 : decode cL_law 337 = .ok (.iconst 3, 1) := by decide +kernel
theorem dL_law_338 : decode cL_law 338 = .ok (.irem, 1) := by decide +kernel
theorem dL_law_339 : decode cL_law 339 = .ok (.iconst 1, 1) := by decide +kernel
theorem dL_law_340 : decode cL_law 340 = .ok (.isub, 1) := by decide +kernel
theorem dL_law_341 : decode cL_law 341 = .ok (.invokevirtual 34, 3) := by decide +kernel
theorem dL_law_344 : decode cL_law 344 = .ok (.istore 10, 2) := by decide +kernel
theorem dL_law_346 : decode cL_law 346 = .ok (.iload 10, 2) := by decide +kernel
theorem dL_law_348 : decode cL_law 348 = .ok (.iconst (-1), 1) := by decide +kernel
theorem dL_law_349 : decode cL_law 349 = .ok (.if_icmp .lt 33, 3) := by decide +kernel
theorem dL_law_352 : decode cL_law 352 = .ok (.iload 10, 2) := by decide +kernel
theorem dL_law_354 : decode cL_law 354 = .ok (.iconst 1, 1) := by decide +kernel
theorem dL_law_355 : decode cL_law 355 = .ok (.if_icmp .gt 27, 3) := by decide +kernel
theorem dL_law_358 : decode cL_law 358 = .ok (.aload_n 1, 1) := by decide +kernel
theorem dL_law_359 : decode cL_law 359 = .ok (.iload 7, 2) := by decide +kernel
theorem dL_law_361 : decode cL_law 361 = .ok (.iload 6, 2) := by decide +kernel
theorem dL_law_363 : decode cL_law 363 = .ok (.iload 8, 2) := by decide +kernel
theorem dL_law_365 : decode cL_law 365 = .ok (.irem, 1) := by decide +kernel
theorem dL_law_366 : decode cL_law 366 = .ok (.iload 10, 2) := by decide +kernel
theorem dL_law_368 : decode cL_law 368 = .ok (.invokevirtual 34, 3) := by decide +kernel
theorem dL_law_371 : decode cL_law 371 = .ok (.iload 5, 2) := by decide +kernel
theorem dL_law_373 : decode cL_law 373 = .ok (.iconst 4, 1) := by decide +kernel
theorem dL_law_374 : decode cL_law 374 = .ok (.idiv, 1) := by decide +kernel
theorem dL_law_375 : decode cL_law 375 = .ok (.iconst 3, 1) := by decide +kernel
theorem dL_law_376 : decode cL_law 376 = .ok (.irem, 1) := by decide +kernel
theorem dL_law_377 : decode cL_law 377 = .ok (.iconst 1, 1) := by decide +kernel
theorem dL_law_378 : decode cL_law 378 = .ok (.isub, 1) := by decide +kernel
theorem dL_law_379 : decode cL_law 379 = .ok (.if_icmp .eq 5, 3) := by decide +kernel
theorem dL_law_382 : decode cL_law 382 = .ok (.iconst 0, 1) := by decide +kernel
theorem dL_law_383 : decode cL_law 383 = .ok (.ireturn, 1) := by decide +kernel
theorem dL_law_384 : decode cL_law 384 = .ok (.goto 204, 3) := by decide +kernel
theorem dL_law_387 : decode cL_law 387 = .ok (.iload 4, 2) := by decide +kernel
theorem dL_law_389 : decode cL_law 389 = .ok (.bipush 10, 2) := by decide +kernel
theorem dL_law_391 : decode cL_law 391 = .ok (.if_icmp .ne 31, 3) := by decide +kernel
theorem dL_law_394 : decode cL_law 394 = .ok (.aload_n 1, 1) := by decide +kernel
theorem dL_law_395 : decode cL_law 395 = .ok (.iload 5, 2) := by decide +kernel
theorem dL_law_397 : decode cL_law 397 = .ok (.iconst 4, 1) := by decide +kernel
theorem dL_law_398 : decode cL_law 398 = .ok (.idiv, 1) := by decide +kernel
theorem dL_law_399 : decode cL_law 399 = .ok (.iconst 4, 1) := by decide +kernel
theorem dL_law_400 : decode cL_law 400 = .ok (.irem, 1) := by decide +kernel
theorem dL_law_401 : decode cL_law 401 = .ok (.iconst 1, 1) := by decide +kernel
theorem dL_law_402 : decode cL_law 402 = .ok (.iload 6, 2) := by decide +kernel
theorem dL_law_404 : decode cL_law 404 = .ok (.bipush 9, 2) := by decide +kernel
theorem dL_law_406 : decode cL_law 406 = .ok (.irem, 1) := by decide +kernel
theorem dL_law_407 : decode cL_law 407 = .ok (.iadd, 1) := by decide +kernel
theorem dL_law_408 : decode cL_law 408 = .ok (.iload 5, 2) := by decide +kernel
theorem dL_law_410 : decode cL_law 410 = .ok (.bipush 100, 2) := by decide +kernel
theorem dL_law_412 : decode cL_law 412 = .ok (.irem, 1) := by decide +kernel
theorem dL_law_413 : decode cL_law 413 = .ok (.invokevirtual 31, 3) := by decide +kernel
theorem dL_law_416 : decode cL_law 416 = .ok (.iconst 1, 1) := by decide +kernel
theorem dL_law_417 : decode cL_law 417 = .ok (.if_icmp .ge 171, 3) := by decide +kernel
theorem dL_law_420 : decode cL_law 420 = .ok (.iconst 0, 1) := by decide +kernel
theorem dL_law_421 : decode cL_law 421 = .ok (.ireturn, 1) := by decide +kernel
theorem dL_law_422 : decode cL_law 422 = .ok (.iload 5, 2) := by decide +kernel
theorem dL_law_424 : decode cL_law 424 = .ok (.sipush 1023, 3) := by decide +kernel
theorem dL_law_427 : decode cL_law 427 = .ok (.iand, 1) := by decide +kernel
theorem dL_law_428 : decode cL_law 428 = .ok (.iconst 5, 1) := by decide +kernel
theorem dL_law_429 : decode cL_law 429 = .ok (.ishl, 1) := by decide +kernel
theorem dL_law_430 : decode cL_law 430 = .ok (.iload 6, 2) := by decide +kernel
theorem dL_law_432 : decode cL_law 432 = .ok (.bipush 31, 2) := by decide +kernel
theorem dL_law_434 : decode cL_law 434 = .ok (.iand, 1) := by decide +kernel
theorem dL_law_435 : decode cL_law 435 = .ok (.ior, 1) := by decide +kernel
theorem dL_law_436 : decode cL_law 436 = .ok (.istore 10, 2) := by decide +kernel
theorem dL_law_438 : decode cL_law 438 = .ok (.aload_n 1, 1) := by decide +kernel
theorem dL_law_439 : decode cL_law 439 = .ok (.iload 7, 2) := by decide +kernel
theorem dL_law_441 : decode cL_law 441 = .ok (.iload 10, 2) := by decide +kernel
theorem dL_law_443 : decode cL_law 443 = .ok (.invokevirtual 40, 3) := by decide +kernel
theorem dL_law_446 : decode cL_law 446 = .ok (.aload_n 1, 1) := by decide +kernel
theorem dL_law_447 : decode cL_law 447 = .ok (.iload 7, 2) := by decide +kernel
theorem dL_law_449 : decode cL_law 449 = .ok (.iload 10, 2) := by decide +kernel
theorem dL_law_451 : decode cL_law 451 = .ok (.invokevirtual 43, 3) := by decide +kernel
theorem dL_law_454 : decode cL_law 454 = .ok (.if_icmp .ne 85, 3) := by decide +kernel
theorem dL_law_457 : decode cL_law 457 = .ok (.aload_n 1, 1) := by decide +kernel
theorem dL_law_458 : decode cL_law 458 = .ok (.iload 7, 2) := by decide +kernel
theorem dL_law_460 : decode cL_law 460 = .ok (.iload 10, 2) := by decide +kernel
theorem dL_law_462 : decode cL_law 462 = .ok (.iload 6, 2) := by decide +kernel
theorem dL_law_464 : decode cL_law 464 = .ok (.aload_n 1, 1) := by decide +kernel
theorem dL_law_465 : decode cL_law 465 = .ok (.iload 7, 2) := by decide +kernel
theorem dL_law_467 : decode cL_law 467 = .ok (.iload 10, 2) := by decide +kernel
theorem dL_law_469 : decode cL_law 469 = .ok (.iload 6, 2) := by decide +kernel
theorem dL_law_471 : decode cL_law 471 = .ok (.iconst 0, 1) := by decide +kernel
theorem dL_law_472 : decode cL_law 472 = .ok (.invokevirtual 55, 3) := by decide +kernel
theorem dL_law_475 : decode cL_law 475 = .ok (.aload_n 1, 1) := by decide +kernel
theorem dL_law_476 : decode cL_law 476 = .ok (.iload 7, 2) := by decide +kernel
theorem dL_law_478 : decode cL_law 478 = .ok (.iload 10, 2) := by decide +kernel
theorem dL_law_480 : decode cL_law 480 = .ok (.iload 6, 2) := by decide +kernel
theorem dL_law_482 : decode cL_law 482 = .ok (.iconst 1, 1) := by decide +kernel
theorem dL_law_483 : decode cL_law 483 = .ok (.invokevirtual 55, 3) := by decide +kernel
theorem dL_law_486 : decode cL_law 486 = .ok (.aload_n 1, 1) := by decide +kernel
theorem dL_law_487 : decode cL_law 487 = .ok (.iload 7, 2) := by decide +kernel
theorem dL_law_489 : decode cL_law 489 = .ok (.iload 10, 2) := by decide +kernel
theorem dL_law_491 : decode cL_law 491 = .ok (.iload 6, 2) := by decide +kernel
theorem dL_law_493 : decode cL_law 493 = .ok (.iconst 2, 1) := by decide +kernel
theorem dL_law_494 : decode cL_law 494 = .ok (.invokevirtual 55, 3) := by decide +kernel
theorem dL_law_497 : decode cL_law 497 = .ok (.invokestatic 108, 3) := by decide +kernel
theorem dL_law_500 : decode cL_law 500 = .ok (.ifCond .eq 39, 3) := by decide +kernel
theorem dL_law_503 : decode cL_law 503 = .ok (.aload_n 1, 1) := by decide +kernel
theorem dL_law_504 : decode cL_law 504 = .ok (.iload 7, 2) := by decide +kernel
theorem dL_law_506 : decode cL_law 506 = .ok (.iload 10, 2) := by decide +kernel
theorem dL_law_508 : decode cL_law 508 = .ok (.iload 6, 2) := by decide +kernel
theorem dL_law_510 : decode cL_law 510 = .ok (.iconst 1, 1) := by decide +kernel
theorem dL_law_511 : decode cL_law 511 = .ok (.invokevirtual 55, 3) := by decide +kernel
theorem dL_law_514 : decode cL_law 514 = .ok (.sipush 1080, 3) := by decide +kernel
theorem dL_law_517 : decode cL_law 517 = .ok (.if_icmp .gt 22, 3) := by decide +kernel
theorem dL_law_520 : decode cL_law 520 = .ok (.iload 9, 2) := by decide +kernel
theorem dL_law_522 : decode cL_law 522 = .ok (.bipush 9, 2) := by decide +kernel
theorem dL_law_524 : decode cL_law 524 = .ok (.if_icmp .ge 17, 3) := by decide +kernel
theorem dL_law_527 : decode cL_law 527 = .ok (.aload_n 1, 1) := by decide +kernel
theorem dL_law_528 : decode cL_law 528 = .ok (.iload 7, 2) := by decide +kernel
theorem dL_law_530 : decode cL_law 530 = .ok (.iload 7, 2) := by decide +kernel
theorem dL_law_532 : decode cL_law 532 = .ok (.invokevirtual 67, 3) := by decide +kernel
theorem dL_law_535 : decode cL_law 535 = .ok (.iconst (-1), 1) := by decide +kernel
theorem dL_law_536 : decode cL_law 536 = .ok (.if_icmp .eq 5, 3) := by decide +kernel
theorem dL_law_539 : decode cL_law 539 = .ok (.iconst 0, 1) := by decide +kernel
theorem dL_law_540 : decode cL_law 540 = .ok (.ireturn, 1) := by decide +kernel
theorem dL_law_541 : decode cL_law 541 = .ok (.aload_n 1, 1) := by decide +kernel
theorem dL_law_542 : decode cL_law 542 = .ok (.iload 7, 2) := by decide +kernel
theorem dL_law_544 : decode cL_law 544 = .ok (.iconst 0, 1) := by decide +kernel
theorem dL_law_545 : decode cL_law 545 = .ok (.invokevirtual 52, 3) := by decide +kernel
theorem dL_law_548 : decode cL_law 548 = .ok (.istore 11, 2) := by decide +kernel
theorem dL_law_550 : decode cL_law 550 = .ok (.iload 11, 2) := by decide +kernel
theorem dL_law_552 : decode cL_law 552 = .ok (.ifCond .lt 24, 3) := by decide +kernel
theorem dL_law_555 : decode cL_law 555 = .ok (.aload_n 1, 1) := by decide +kernel
theorem dL_law_556 : decode cL_law 556 = .ok (.iload 7, 2) := by decide +kernel
theorem dL_law_558 : decode cL_law 558 = .ok (.iload 11, 2) := by decide +kernel
theorem dL_law_560 : decode cL_law 560 = .ok (.invokevirtual 49, 3) := by decide +kernel
theorem dL_law_563 : decode cL_law 563 = .ok (.aload_n 1, 1) := by decide +kernel
theorem dL_law_564 : decode cL_law 564 = .ok (.iload 7, 2) := by decide +kernel
theorem dL_law_566 : decode cL_law 566 = .ok (.iconst 4, 1) := by decide +kernel
theorem dL_law_567 : decode cL_law 567 = .ok (.invokevirtual 46, 3) := by decide +kernel
theorem dL_law_570 : decode cL_law 570 = .ok (.if_icmp .eq 18, 3) := by decide +kernel
theorem dL_law_573 : decode cL_law 573 = .ok (.goto 13, 3) := by decide +kernel
theorem dL_law_576 : decode cL_law 576 = .ok (.aload_n 1, 1) := by decide +kernel
theorem dL_law_577 : decode cL_law 577 = .ok (.iload 7, 2) := by decide +kernel
theorem dL_law_579 : decode cL_law 579 = .ok (.iconst 2, 1) := by decide +kernel
theorem dL_law_580 : decode cL_law 580 = .ok (.invokevirtual 46, 3) := by decide +kernel
theorem dL_law_583 : decode cL_law 583 = .ok (.ifCond .eq 5, 3) := by decide +kernel
theorem dL_law_586 : decode cL_law 586 = .ok (.iconst 0, 1) := by decide +kernel
theorem dL_law_587 : decode cL_law 587 = .ok (.ireturn, 1) := by decide +kernel
theorem dL_law_588 : decode cL_law 588 = .ok (.iload_n 2, 1) := by decide +kernel
theorem dL_law_589 : decode cL_law 589 = .ok (.bipush 16, 2) := by decide +kernel
theorem dL_law_591 : decode cL_law 591 = .ok (.irem, 1) := by decide +kernel
theorem dL_law_592 : decode cL_law 592 = .ok (.ifCond .ne 12, 3) := by decide +kernel
theorem dL_law_595 : decode cL_law 595 = .ok (.aload_n 1, 1) := by decide +kernel
theorem dL_law_596 : decode cL_law 596 = .ok (.invokestatic 93, 3) := by decide +kernel
theorem dL_law_599 : decode cL_law 599 = .ok (.ifCond .ne 5, 3) := by decide +kernel
theorem dL_law_602 : decode cL_law 602 = .ok (.iconst 0, 1) := by decide +kernel
theorem dL_law_603 : decode cL_law 603 = .ok (.ireturn, 1) := by decide +kernel
theorem dL_law_604 : decode cL_law 604 = .ok (.iinc 2 1, 3) := by decide +kernel
theorem dL_law_607 : decode cL_law 607 = .ok (.goto (-589), 3) := by decide +kernel
theorem dL_law_610 : decode cL_law 610 = .ok (.iconst 1, 1) := by decide +kernel
theorem dL_law_611 : decode cL_law 611 = .ok (.ireturn, 1) := by decide +kernel

set_option maxRecDepth 20000 in
theorem ggL_most_L_act_p1 : GoodIn wsL_most [.codeWith yL_act cL_act 7 (some .int) [(0, 306, 307, 73), (0, 306, 312, 76), (0, 306, 317, 79)]] := gI_one (List.mem_cons_of_mem _ (List.mem_append_left _ (List.mem_append_left _ (List.mem_append_left _ (List.mem_append_left _ (List.mem_append_left _ (List.mem_append_left _ (List.mem_append_left _ (List.mem_append_left _ (List.mem_append_left _ (List.mem_append_left _ (List.mem_append_left _ (List.mem_append_left _ (List.mem_append_left _ (List.mem_append_left _ (List.mem_append_left _ (List.mem_append_right _ (List.mem_append_right _ (List.mem_append_right _ (List.mem_append_right _ (List.mem_append_right _ (List.mem_append_left _ ((show (.codeWith yL_act cL_act 7 (some .int) [(0, 306, 307, 73), (0, 306, 312, 76), (0, 306, 317, 79)] : Cond) ∈ wsL_most_r6 from List.mem_of_getElem? (i := 15) rfl)))))))))))))))))))))))) (by decide +kernel)
set_option maxRecDepth 20000 in
theorem ggL_most_L_act_p2 : GoodIn wsL_most wsL_act_r1 := goodIn_r _ [137, 138, 139, 140, 141, 4, 142, 143, 144, 3, 145, 146, 147, 148, 149, 150, 151, 152, 153, 14, 154, 155, 156, 54] (by decide +kernel) (by decide +kernel)
set_option maxRecDepth 20000 in
theorem ggL_most_L_act_p3 : GoodIn wsL_most wsL_act_r2 := goodIn_r _ [157, 158, 159, 160, 161, 162, 163, 164, 165, 166, 167, 168, 169, 170, 171, 123, 124, 125, 126, 172, 130, 131, 17, 132] (by decide +kernel) (by decide +kernel)
set_option maxRecDepth 20000 in
theorem ggL_most_L_act_p4 : GoodIn wsL_most wsL_act_r3 := goodIn_r _ [60, 173, 174, 175, 176, 177, 178, 179, 180, 181, 182, 183, 184, 185, 186, 187, 188, 189, 190, 191, 192, 193, 194, 195] (by decide +kernel) (by decide +kernel)
set_option maxRecDepth 20000 in
theorem ggL_most_L_act_p5 : GoodIn wsL_most wsL_act_r4 := goodIn_r _ [196, 197, 198, 199, 200, 201, 202, 203, 127, 204, 205, 206, 207, 23, 208, 209, 210, 211, 212, 213, 214, 215, 216, 217] (by decide +kernel) (by decide +kernel)
set_option maxRecDepth 20000 in
theorem ggL_most_L_act_p6 : GoodIn wsL_most wsL_act_r5 := goodIn_r _ [218, 219, 220, 221, 222, 22, 223, 224, 225, 226, 227, 228, 229, 230, 231, 232, 233, 234, 235, 236, 237, 238, 239, 240] (by decide +kernel) (by decide +kernel)
set_option maxRecDepth 20000 in
theorem ggL_most_L_act_p7 : GoodIn wsL_most wsL_act_r6 := goodIn_r _ [241, 242, 243, 244, 65, 66, 68, 245, 246, 247, 248, 249, 67, 69, 250, 251, 252, 253, 254, 255, 256, 257, 258, 259] (by decide +kernel) (by decide +kernel)
set_option maxRecDepth 20000 in
theorem ggL_most_L_act_p8 : GoodIn wsL_most wsL_act_r7 := goodIn_r _ [260, 261, 262, 263, 264, 265, 266, 267, 268, 269, 70, 71, 270, 271, 272, 273, 274, 275, 276, 277, 278, 279, 280, 281] (by decide +kernel) (by decide +kernel)
set_option maxRecDepth 20000 in
theorem ggL_most_L_act_p9 : GoodIn wsL_most wsL_act_r8 := goodIn_r _ [282, 283, 284, 285, 286, 287, 288, 289, 290, 18, 19, 291, 129, 292, 293, 294, 295, 296, 297, 298, 299, 300, 301, 302] (by decide +kernel) (by decide +kernel)
set_option maxRecDepth 20000 in
theorem ggL_most_L_act_p10 : GoodIn wsL_most wsL_act_r9 := goodIn_r _ [303, 304, 305, 306, 307, 308, 309, 35, 310, 311, 312, 34, 313, 314, 315, 316, 317, 93, 94, 318, 319, 320, 321, 322] (by decide +kernel) (by decide +kernel)
set_option maxRecDepth 20000 in
theorem ggL_most_L_act_p11 : GoodIn wsL_most wsL_act_r10 := goodIn_r _ [323, 324, 325, 326, 327, 328, 329, 330, 331, 332, 333, 334, 335, 336, 337, 338, 339, 340, 341, 92, 342, 100, 343, 344] (by decide +kernel) (by decide +kernel)
set_option maxRecDepth 20000 in
theorem ggL_most_L_act_p12 : GoodIn wsL_most wsL_act_r11 := goodIn_r _ [345, 346, 347, 348, 349, 350, 351, 352, 353, 354, 355, 356, 357, 358, 359, 360, 361, 362, 363, 364, 365, 366, 367, 368] (by decide +kernel) (by decide +kernel)
set_option maxRecDepth 20000 in
theorem ggL_most_L_act_p13 : GoodIn wsL_most wsL_act_r12 := goodIn_r _ [369, 370, 371, 372, 373, 374, 375, 27, 376, 377, 378, 379, 26, 380, 77, 78, 381, 382, 383, 384, 385, 386, 387, 388] (by decide +kernel) (by decide +kernel)
set_option maxRecDepth 20000 in
theorem ggL_most_L_act_p14 : GoodIn wsL_most wsL_act_r13 := goodIn_r _ [389, 390, 391, 392, 393, 394, 395, 396, 397, 398, 399, 400, 401, 402, 403, 404, 31, 405, 406, 407, 408, 409, 410, 411] (by decide +kernel) (by decide +kernel)
set_option maxRecDepth 20000 in
theorem ggL_most_L_act_p15 : GoodIn wsL_most wsL_act_r14 := goodIn_r _ [412, 413, 30, 414, 415, 85, 416, 417, 418, 419, 420, 421, 422, 423, 424, 425, 426, 427, 428, 429, 430, 431, 432, 433] (by decide +kernel) (by decide +kernel)
set_option maxRecDepth 20000 in
theorem ggL_most_L_act_p16 : GoodIn wsL_most wsL_act_r15 := goodIn_r _ [434, 435, 436, 437, 438, 439, 440, 79, 441, 442, 443, 444, 445, 446, 447, 448, 449, 450, 451, 452, 453, 454, 455, 456] (by decide +kernel) (by decide +kernel)
set_option maxRecDepth 20000 in
theorem ggL_most_L_act_p17 : GoodIn wsL_most wsL_act_r16 := goodIn_r _ [457, 458, 459, 460, 461, 462, 463, 464, 465, 466, 467, 468, 469, 470, 471, 472, 473, 44, 36, 40, 474, 475, 476, 477] (by decide +kernel) (by decide +kernel)
set_option maxRecDepth 20000 in
theorem ggL_most_L_act_p18 : GoodIn wsL_most wsL_act_r17 := goodIn_r _ [478, 479, 480, 481, 482, 483, 39, 484, 485, 486, 487, 488, 489, 490, 491, 492, 493, 494, 43, 495, 496, 497, 498, 499] (by decide +kernel) (by decide +kernel)
set_option maxRecDepth 20000 in
theorem ggL_most_L_act_p19 : GoodIn wsL_most wsL_act_r18 := goodIn_r _ [500, 501, 502, 503, 504, 505, 506, 507, 508, 509, 510, 108, 511, 512, 513, 514, 515, 516, 517, 518, 519, 520, 521, 522] (by decide +kernel) (by decide +kernel)
set_option maxRecDepth 20000 in
theorem ggL_most_L_act_p20 : GoodIn wsL_most wsL_act_r19 := goodIn_r _ [523, 524, 525, 526, 527, 528, 529, 530, 531, 532, 533, 534, 535, 536, 537, 538, 539, 540, 541, 542, 543, 544, 545, 546] (by decide +kernel) (by decide +kernel)
set_option maxRecDepth 20000 in
theorem ggL_most_L_act_p21 : GoodIn wsL_most wsL_act_r20 := goodIn_r _ [547, 548, 549, 550, 551, 552, 553, 554, 555, 48, 556, 557, 558, 47, 559, 114, 560, 561, 562, 563, 564, 565, 566, 567] (by decide +kernel) (by decide +kernel)
set_option maxRecDepth 20000 in
theorem ggL_most_L_act_p22 : GoodIn wsL_most wsL_act_r21 := goodIn_r _ [568, 569, 570, 571, 572, 573, 574, 575, 576, 577, 578, 579, 580, 581, 582, 583, 584, 585, 586, 587, 588, 589, 52, 590] (by decide +kernel) (by decide +kernel)
set_option maxRecDepth 20000 in
theorem ggL_most_L_act_p23 : GoodIn wsL_most wsL_act_r22 := goodIn_r _ [591, 592, 593, 594, 595, 51, 596, 597, 598, 599, 600, 601, 602, 603, 604, 605, 606, 607, 608, 609, 610, 611, 612, 613] (by decide +kernel) (by decide +kernel)
set_option maxRecDepth 20000 in
theorem ggL_most_L_act_p24 : GoodIn wsL_most wsL_act_r23 := goodIn_r _ [614, 615, 616, 617, 618, 619, 620, 621, 622, 623, 624, 625, 626, 627, 628, 629, 630, 631, 632, 633, 634, 635, 636, 637] (by decide +kernel) (by decide +kernel)
set_option maxRecDepth 20000 in
theorem ggL_most_L_act_p25 : GoodIn wsL_most wsL_act_r24 := goodIn_r _ [638, 639, 640, 641, 642, 643, 644, 645, 646, 647, 648, 649, 650] (by decide +kernel) (by decide +kernel)
set_option maxRecDepth 20000 in
theorem ggL_most_L_act_p26 : GoodIn wsL_most wsX110 := goodIn_r _ [667, 668, 669, 670, 671, 672, 673, 674, 675, 676, 677, 678] (by decide +kernel) (by decide +kernel)
set_option maxRecDepth 20000 in
theorem ggL_most_L_act_p27 : GoodIn wsL_most wsX30 := goodIn_r _ [708, 709, 710, 711, 712, 713, 714, 715] (by decide +kernel) (by decide +kernel)
set_option maxRecDepth 20000 in
theorem ggL_most_L_act_p28 : GoodIn wsL_most wsX40 := goodIn_r _ [679] (by decide +kernel) (by decide +kernel)
set_option maxRecDepth 20000 in
theorem ggL_most_L_act_p29 : GoodIn wsL_most wsX20 := goodIn_r _ [680, 681, 682, 683, 684, 685, 686, 687, 688, 689] (by decide +kernel) (by decide +kernel)
set_option maxRecDepth 20000 in
theorem ggL_most_L_act_p30 : GoodIn wsL_most wsX10 := goodIn_r _ [695, 696] (by decide +kernel) (by decide +kernel)
set_option maxRecDepth 20000 in
theorem ggL_most_L_act_p31 : GoodIn wsL_most wsX90 := goodIn_r _ [716] (by decide +kernel) (by decide +kernel)
set_option maxRecDepth 20000 in
theorem ggL_most_L_act_p32 : GoodIn wsL_most wsX100 := goodIn_r _ [690, 691, 692] (by decide +kernel) (by decide +kernel)
set_option maxRecDepth 20000 in
theorem ggL_most_L_act_p33 : GoodIn wsL_most wsX70 := goodIn_r _ [693, 694] (by decide +kernel) (by decide +kernel)
set_option maxRecDepth 20000 in
theorem ggL_most_L_act_p34 : GoodIn wsL_most wsX50 := goodIn_r _ [697, 698, 699] (by decide +kernel) (by decide +kernel)
set_option maxRecDepth 20000 in
theorem ggL_most_L_act_p35 : GoodIn wsL_most wsX80 := goodIn_r _ [700, 701] (by decide +kernel) (by decide +kernel)
set_option maxRecDepth 20000 in
theorem ggL_most_L_act_p36 : GoodIn wsL_most wsX60 := goodIn_r _ [702] (by decide +kernel) (by decide +kernel)
set_option maxRecDepth 20000 in
theorem ggL_most_L_act_p37 : GoodIn wsL_most wsX00 := goodIn_r _ [703, 704, 705, 706, 707] (by decide +kernel) (by decide +kernel)
set_option maxRecDepth 20000 in
theorem ggL_most_L_act : GoodIn wsL_most wsL_act := goodIn_ca (goodIn_ca (goodIn_ca (gI_cons ggL_most_L_act_p1 (goodIn_app (goodIn_app (goodIn_app (goodIn_app (goodIn_app (goodIn_app (goodIn_app (goodIn_app (goodIn_app (goodIn_app (goodIn_app (goodIn_app (goodIn_app ggL_most_L_act_p2 (goodIn_app ggL_most_L_act_p3 (goodIn_app ggL_most_L_act_p4 (goodIn_app ggL_most_L_act_p5 (goodIn_app ggL_most_L_act_p6 (goodIn_app ggL_most_L_act_p7 (goodIn_app ggL_most_L_act_p8 (goodIn_app ggL_most_L_act_p9 (goodIn_app ggL_most_L_act_p10 (goodIn_app ggL_most_L_act_p11 (goodIn_app ggL_most_L_act_p12 (goodIn_app ggL_most_L_act_p13 (goodIn_app ggL_most_L_act_p14 (goodIn_app ggL_most_L_act_p15 (goodIn_app ggL_most_L_act_p16 (goodIn_app ggL_most_L_act_p17 (goodIn_app ggL_most_L_act_p18 (goodIn_app ggL_most_L_act_p19 (goodIn_app ggL_most_L_act_p20 (goodIn_app ggL_most_L_act_p21 (goodIn_app ggL_most_L_act_p22 (goodIn_app ggL_most_L_act_p23 (goodIn_app ggL_most_L_act_p24 ggL_most_L_act_p25))))))))))))))))))))))) ggL_most_L_act_p26) ggL_most_L_act_p27) ggL_most_L_act_p28) ggL_most_L_act_p29) ggL_most_L_act_p30) ggL_most_L_act_p31) ggL_most_L_act_p32) ggL_most_L_act_p33) ggL_most_L_act_p34) ggL_most_L_act_p35) ggL_most_L_act_p36) ggL_most_L_act_p37)) (goodIn_sub (fun _ h => List.mem_cons_of_mem _ (List.mem_append_left _ (List.mem_append_left _ (List.mem_append_right _ h)))) (by decide +kernel))) (goodIn_sub (fun _ h => List.mem_cons_of_mem _ (List.mem_append_left _ (List.mem_append_right _ h))) (by decide +kernel))) (goodIn_sub (fun _ h => List.mem_cons_of_mem _ (List.mem_append_right _ h)) (by decide +kernel))

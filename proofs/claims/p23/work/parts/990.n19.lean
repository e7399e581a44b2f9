set_option maxRecDepth 20000 in
theorem ggL_adders_L_act_p1 : GoodIn wsL_adders [.codeWith yL_act cL_act 7 (some .int) [(0, 306, 307, 73), (0, 306, 312, 76), (0, 306, 317, 79)]] := gI_one (List.mem_cons_of_mem _ (List.mem_append_left _ (List.mem_append_left _ (List.mem_append_left _ (List.mem_append_left _ (List.mem_append_left _ (List.mem_append_left _ (List.mem_append_left _ (List.mem_append_left _ (List.mem_append_left _ (List.mem_append_left _ (List.mem_append_left _ (List.mem_append_left _ (List.mem_append_left _ (List.mem_append_left _ (List.mem_append_left _ (List.mem_append_right _ (List.mem_append_right _ (List.mem_append_right _ (List.mem_append_right _ (List.mem_append_right _ (List.mem_append_right _ (List.mem_append_right _ (List.mem_append_right _ (List.mem_append_right _ (List.mem_append_right _ (List.mem_append_left _ ((show (.codeWith yL_act cL_act 7 (some .int) [(0, 306, 307, 73), (0, 306, 312, 76), (0, 306, 317, 79)] : Cond) ∈ wsL_adders_r11 from List.mem_of_getElem? (i := 18) rfl))))))))))))))))))))))))))))) (by decide +kernel)
set_option maxRecDepth 20000 in
theorem ggL_adders_L_act_p2 : GoodIn wsL_adders wsL_act_r1 := goodIn_r _ [260, 261, 262, 141, 142, 5, 263, 264, 265, 3, 266, 267, 268, 147, 148, 149, 150, 151, 152, 14, 269, 270, 271, 54] (by decide +kernel) (by decide +kernel)
set_option maxRecDepth 20000 in
theorem ggL_adders_L_act_p3 : GoodIn wsL_adders wsL_act_r2 := goodIn_r _ [272, 162, 163, 164, 165, 166, 167, 273, 274, 275, 276, 277, 278, 279, 280, 123, 124, 125, 126, 281, 130, 131, 17, 132] (by decide +kernel) (by decide +kernel)
set_option maxRecDepth 20000 in
theorem ggL_adders_L_act_p4 : GoodIn wsL_adders wsL_act_r3 := goodIn_r _ [60, 282, 283, 284, 285, 286, 287, 288, 289, 290, 291, 292, 293, 294, 295, 296, 297, 298, 299, 300, 301, 302, 303, 168] (by decide +kernel) (by decide +kernel)
set_option maxRecDepth 20000 in
theorem ggL_adders_L_act_p5 : GoodIn wsL_adders wsL_act_r4 := goodIn_r _ [169, 170, 171, 172, 304, 305, 306, 307, 127, 308, 309, 310, 311, 23, 153, 154, 155, 156, 157, 312, 313, 314, 158, 159] (by decide +kernel) (by decide +kernel)
set_option maxRecDepth 20000 in
theorem ggL_adders_L_act_p6 : GoodIn wsL_adders wsL_act_r5 := goodIn_r _ [160, 161, 315, 316, 317, 22, 318, 319, 320, 321, 322, 323, 324, 325, 326, 327, 328, 329, 330, 331, 332, 333, 334, 335] (by decide +kernel) (by decide +kernel)
set_option maxRecDepth 20000 in
theorem ggL_adders_L_act_p7 : GoodIn wsL_adders wsL_act_r6 := goodIn_r _ [336, 337, 338, 339, 65, 66, 68, 340, 341, 342, 343, 344, 67, 69, 345, 346, 347, 348, 241, 182, 183, 184, 349, 350] (by decide +kernel) (by decide +kernel)
set_option maxRecDepth 20000 in
theorem ggL_adders_L_act_p8 : GoodIn wsL_adders wsL_act_r7 := goodIn_r _ [351, 352, 353, 354, 355, 356, 357, 358, 359, 360, 70, 71, 361, 362, 363, 364, 365, 366, 367, 368, 369, 370, 371, 372] (by decide +kernel) (by decide +kernel)
set_option maxRecDepth 20000 in
theorem ggL_adders_L_act_p9 : GoodIn wsL_adders wsL_act_r8 := goodIn_r _ [373, 374, 375, 376, 377, 378, 379, 380, 381, 18, 19, 189, 129, 382, 383, 384, 385, 386, 387, 388, 389, 181, 390, 391] (by decide +kernel) (by decide +kernel)
set_option maxRecDepth 20000 in
theorem ggL_adders_L_act_p10 : GoodIn wsL_adders wsL_act_r9 := goodIn_r _ [392, 393, 394, 395, 396, 397, 398, 35, 399, 400, 401, 34, 402, 403, 404, 405, 406, 93, 94, 407, 408, 178, 179, 180] (by decide +kernel) (by decide +kernel)
set_option maxRecDepth 20000 in
theorem ggL_adders_L_act_p11 : GoodIn wsL_adders wsL_act_r10 := goodIn_r _ [409, 410, 411, 412, 413, 414, 415, 416, 417, 186, 187, 188, 418, 202, 203, 204, 419, 420, 421, 92, 422, 100, 423, 207] (by decide +kernel) (by decide +kernel)
set_option maxRecDepth 20000 in
theorem ggL_adders_L_act_p12 : GoodIn wsL_adders wsL_act_r11 := goodIn_r _ [208, 209, 424, 425, 426, 427, 428, 429, 430, 431, 432, 433, 222, 223, 224, 434, 435, 436, 437, 438, 439, 440, 441, 442] (by decide +kernel) (by decide +kernel)
set_option maxRecDepth 20000 in
theorem ggL_adders_L_act_p13 : GoodIn wsL_adders wsL_act_r12 := goodIn_r _ [443, 444, 445, 446, 447, 448, 449, 27, 450, 451, 452, 453, 26, 454, 77, 78, 230, 231, 232, 233, 252, 253, 254, 255] (by decide +kernel) (by decide +kernel)
set_option maxRecDepth 20000 in
theorem ggL_adders_L_act_p14 : GoodIn wsL_adders wsL_act_r13 := goodIn_r _ [256, 234, 247, 235, 236, 243, 455, 456, 457, 458, 459, 244, 143, 144, 145, 146, 31, 173, 174, 175, 176, 177, 185, 190] (by decide +kernel) (by decide +kernel)
set_option maxRecDepth 20000 in
theorem ggL_adders_L_act_p15 : GoodIn wsL_adders wsL_act_r14 := goodIn_r _ [191, 192, 30, 193, 194, 85, 195, 196, 197, 198, 199, 200, 201, 205, 206, 210, 211, 212, 213, 214, 215, 216, 217, 218] (by decide +kernel) (by decide +kernel)
set_option maxRecDepth 20000 in
theorem ggL_adders_L_act_p16 : GoodIn wsL_adders wsL_act_r15 := goodIn_r _ [219, 220, 221, 225, 226, 227, 228, 79, 229, 237, 238, 239, 240, 242, 245, 246, 248, 249, 250, 251, 460, 461, 462, 463] (by decide +kernel) (by decide +kernel)
set_option maxRecDepth 20000 in
theorem ggL_adders_L_act_p17 : GoodIn wsL_adders wsL_act_r16 := goodIn_r _ [464, 465, 466, 467, 468, 469, 470, 471, 472, 473, 474, 475, 476, 477, 478, 479, 480, 44, 36, 40, 481, 482, 483, 484] (by decide +kernel) (by decide +kernel)
set_option maxRecDepth 20000 in
theorem ggL_adders_L_act_p18 : GoodIn wsL_adders wsL_act_r17 := goodIn_r _ [485, 486, 487, 488, 489, 490, 39, 491, 492, 493, 494, 495, 496, 497, 498, 499, 500, 501, 43, 502, 503, 504, 505, 506] (by decide +kernel) (by decide +kernel)
set_option maxRecDepth 20000 in
theorem ggL_adders_L_act_p19 : GoodIn wsL_adders wsL_act_r18 := goodIn_r _ [507, 508, 509, 510, 511, 512, 513, 514, 515, 516, 517, 108, 518, 519, 520, 521, 522, 523, 524, 525, 526, 527, 528, 529] (by decide +kernel) (by decide +kernel)
set_option maxRecDepth 20000 in
theorem ggL_adders_L_act_p20 : GoodIn wsL_adders wsL_act_r19 := goodIn_r _ [530, 531, 532, 533, 534, 535, 536, 537, 538, 539, 540, 541, 542, 543, 544, 545, 546, 547, 548, 549, 550, 551, 552, 553] (by decide +kernel) (by decide +kernel)
set_option maxRecDepth 20000 in
theorem ggL_adders_L_act_p21 : GoodIn wsL_adders wsL_act_r20 := goodIn_r _ [554, 555, 556, 557, 558, 559, 560, 561, 562, 48, 563, 564, 565, 47, 566, 114, 567, 568, 569, 570, 571, 572, 573, 574] (by decide +kernel) (by decide +kernel)
set_option maxRecDepth 20000 in
theorem ggL_adders_L_act_p22 : GoodIn wsL_adders wsL_act_r21 := goodIn_r _ [575, 576, 577, 578, 579, 580, 581, 582, 583, 584, 585, 586, 587, 588, 589, 590, 591, 592, 593, 594, 595, 596, 52, 597] (by decide +kernel) (by decide +kernel)
set_option maxRecDepth 20000 in
theorem ggL_adders_L_act_p23 : GoodIn wsL_adders wsL_act_r22 := goodIn_r _ [598, 599, 600, 601, 602, 51, 603, 604, 605, 606, 607, 608, 609, 610, 611, 612, 613, 614, 615, 616, 617, 618, 619, 620] (by decide +kernel) (by decide +kernel)
set_option maxRecDepth 20000 in
theorem ggL_adders_L_act_p24 : GoodIn wsL_adders wsL_act_r23 := goodIn_r _ [621, 622, 623, 624, 625, 626, 627, 628, 629, 630, 631, 632, 633, 634, 635, 636, 637, 638, 639, 640, 641, 642, 643, 644] (by decide +kernel) (by decide +kernel)
set_option maxRecDepth 20000 in
theorem ggL_adders_L_act_p25 : GoodIn wsL_adders wsL_act_r24 := goodIn_r _ [645, 646, 647, 648, 649, 650, 651, 652, 653, 654, 655, 656, 657] (by decide +kernel) (by decide +kernel)
set_option maxRecDepth 20000 in
theorem ggL_adders_L_act_p26 : GoodIn wsL_adders wsX110 := goodIn_r _ [688, 689, 690, 691, 692, 693, 694, 695, 696, 697, 698, 699] (by decide +kernel) (by decide +kernel)
set_option maxRecDepth 20000 in
theorem ggL_adders_L_act_p27 : GoodIn wsL_adders wsX30 := goodIn_r _ [729, 730, 731, 732, 733, 734, 735, 736] (by decide +kernel) (by decide +kernel)
set_option maxRecDepth 20000 in
theorem ggL_adders_L_act_p28 : GoodIn wsL_adders wsX40 := goodIn_r _ [700] (by decide +kernel) (by decide +kernel)
set_option maxRecDepth 20000 in
theorem ggL_adders_L_act_p29 : GoodIn wsL_adders wsX20 := goodIn_r _ [701, 702, 703, 704, 705, 706, 707, 708, 709, 710] (by decide +kernel) (by decide +kernel)
set_option maxRecDepth 20000 in
theorem ggL_adders_L_act_p30 : GoodIn wsL_adders wsX10 := goodIn_r _ [716, 717] (by decide +kernel) (by decide +kernel)
set_option maxRecDepth 20000 in
theorem ggL_adders_L_act_p31 : GoodIn wsL_adders wsX90 := goodIn_r _ [737] (by decide +kernel) (by decide +kernel)
set_option maxRecDepth 20000 in
theorem ggL_adders_L_act_p32 : GoodIn wsL_adders wsX100 := goodIn_r _ [711, 712, 713] (by decide +kernel) (by decide +kernel)
set_option maxRecDepth 20000 in
theorem ggL_adders_L_act_p33 : GoodIn wsL_adders wsX70 := goodIn_r _ [714, 715] (by decide +kernel) (by decide +kernel)
set_option maxRecDepth 20000 in
theorem ggL_adders_L_act_p34 : GoodIn wsL_adders wsX50 := goodIn_r _ [718, 719, 720] (by decide +kernel) (by decide +kernel)
set_option maxRecDepth 20000 in
theorem ggL_adders_L_act_p35 : GoodIn wsL_adders wsX80 := goodIn_r _ [721, 722] (by decide +kernel) (by decide +kernel)
set_option maxRecDepth 20000 in
theorem ggL_adders_L_act_p36 : GoodIn wsL_adders wsX60 := goodIn_r _ [723] (by decide +kernel) (by decide +kernel)
set_option maxRecDepth 20000 in
theorem ggL_adders_L_act_p37 : GoodIn wsL_adders wsX00 := goodIn_r _ [724, 725, 726, 727, 728] (by decide +kernel) (by decide +kernel)
set_option maxRecDepth 20000 in
theorem ggL_adders_L_act : GoodIn wsL_adders wsL_act := goodIn_ca (goodIn_ca (goodIn_ca (gI_cons ggL_adders_L_act_p1 (goodIn_app (goodIn_app (goodIn_app (goodIn_app (goodIn_app (goodIn_app (goodIn_app (goodIn_app (goodIn_app (goodIn_app (goodIn_app (goodIn_app (goodIn_app ggL_adders_L_act_p2 (goodIn_app ggL_adders_L_act_p3 (goodIn_app ggL_adders_L_act_p4 (goodIn_app ggL_adders_L_act_p5 (goodIn_app ggL_adders_L_act_p6 (goodIn_app ggL_adders_L_act_p7 (goodIn_app ggL_adders_L_act_p8 (goodIn_app ggL_adders_L_act_p9 (goodIn_app ggL_adders_L_act_p10 (goodIn_app ggL_adders_L_act_p11 (goodIn_app ggL_adders_L_act_p12 (goodIn_app ggL_adders_L_act_p13 (goodIn_app ggL_adders_L_act_p14 (goodIn_app ggL_adders_L_act_p15 (goodIn_app ggL_adders_L_act_p16 (goodIn_app ggL_adders_L_act_p17 (goodIn_app ggL_adders_L_act_p18 (goodIn_app ggL_adders_L_act_p19 (goodIn_app ggL_adders_L_act_p20 (goodIn_app ggL_adders_L_act_p21 (goodIn_app ggL_adders_L_act_p22 (goodIn_app ggL_adders_L_act_p23 (goodIn_app ggL_adders_L_act_p24 ggL_adders_L_act_p25))))))))))))))))))))))) ggL_adders_L_act_p26) ggL_adders_L_act_p27) ggL_adders_L_act_p28) ggL_adders_L_act_p29) ggL_adders_L_act_p30) ggL_adders_L_act_p31) ggL_adders_L_act_p32) ggL_adders_L_act_p33) ggL_adders_L_act_p34) ggL_adders_L_act_p35) ggL_adders_L_act_p36) ggL_adders_L_act_p37)) (goodIn_sub (fun _ h => List.mem_cons_of_mem _ (List.mem_append_right _ h)) (by decide +kernel))) (goodIn_sub (fun _ h => List.mem_cons_of_mem _ (List.mem_append_left _ (List.mem_append_left _ (List.mem_append_right _ h)))) (by decide +kernel))) (goodIn_sub (fun _ h => List.mem_cons_of_mem _ (List.mem_append_left _ (List.mem_append_right _ h))) (by decide +kernel))

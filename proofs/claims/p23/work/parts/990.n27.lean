set_option maxRecDepth 20000 in
theorem ggL_law_L_act_p1 : GoodIn wsL_law [.codeWith yL_act cL_act 7 (some .int) [(0, 306, 307, 73), (0, 306, 312, 76), (0, 306, 317, 79)]] := gI_one (List.mem_append_left _ (List.mem_append_left _ (List.mem_append_left _ (List.mem_append_left _ (List.mem_append_left _ (List.mem_append_left _ (List.mem_append_left _ (List.mem_append_left _ (List.mem_append_left _ (List.mem_append_left _ (List.mem_append_left _ (List.mem_append_left _ (List.mem_append_left _ (List.mem_append_left _ (List.mem_append_left _ (List.mem_append_left _ (List.mem_append_right _ (List.mem_append_right _ (List.mem_append_right _ (List.mem_append_right _ (List.mem_append_right _ (List.mem_append_right _ (List.mem_append_right _ (List.mem_append_right _ (List.mem_append_right _ (List.mem_append_right _ (List.mem_append_left _ ((show (.codeWith yL_act cL_act 7 (some .int) [(0, 306, 307, 73), (0, 306, 312, 76), (0, 306, 317, 79)] : Cond) ∈ wsL_law0_r11 from List.mem_of_getElem? (i := 21) rfl))))))))))))))))))))))))))))) (by decide +kernel)
set_option maxRecDepth 20000 in
theorem ggL_law_L_act_p2 : GoodIn wsL_law wsL_act_r1 := goodIn_r _ [262, 263, 264, 143, 144, 3, 265, 266, 267, 2, 268, 269, 270, 149, 150, 151, 152, 153, 154, 17, 271, 272, 273, 57] (by decide +kernel) (by decide +kernel)
set_option maxRecDepth 20000 in
theorem ggL_law_L_act_p3 : GoodIn wsL_law wsL_act_r2 := goodIn_r _ [274, 164, 165, 166, 167, 168, 169, 275, 276, 277, 278, 279, 280, 281, 282, 126, 127, 128, 129, 283, 133, 134, 20, 135] (by decide +kernel) (by decide +kernel)
set_option maxRecDepth 20000 in
theorem ggL_law_L_act_p4 : GoodIn wsL_law wsL_act_r3 := goodIn_r _ [63, 284, 285, 286, 287, 288, 289, 290, 291, 292, 293, 294, 295, 296, 297, 298, 299, 300, 301, 302, 303, 304, 305, 170] (by decide +kernel) (by decide +kernel)
set_option maxRecDepth 20000 in
theorem ggL_law_L_act_p5 : GoodIn wsL_law wsL_act_r4 := goodIn_r _ [171, 172, 173, 174, 306, 307, 308, 309, 130, 310, 311, 312, 313, 26, 155, 156, 157, 158, 159, 314, 315, 316, 160, 161] (by decide +kernel) (by decide +kernel)
set_option maxRecDepth 20000 in
theorem ggL_law_L_act_p6 : GoodIn wsL_law wsL_act_r5 := goodIn_r _ [162, 163, 317, 318, 319, 25, 320, 321, 322, 323, 324, 325, 326, 327, 328, 329, 330, 331, 332, 333, 334, 335, 336, 337] (by decide +kernel) (by decide +kernel)
set_option maxRecDepth 20000 in
theorem ggL_law_L_act_p7 : GoodIn wsL_law wsL_act_r6 := goodIn_r _ [338, 339, 340, 341, 68, 69, 71, 342, 343, 344, 345, 346, 70, 72, 347, 348, 349, 350, 243, 184, 185, 186, 351, 352] (by decide +kernel) (by decide +kernel)
set_option maxRecDepth 20000 in
theorem ggL_law_L_act_p8 : GoodIn wsL_law wsL_act_r7 := goodIn_r _ [353, 354, 355, 356, 357, 358, 359, 360, 361, 362, 73, 74, 363, 364, 365, 366, 367, 368, 369, 370, 371, 372, 373, 374] (by decide +kernel) (by decide +kernel)
set_option maxRecDepth 20000 in
theorem ggL_law_L_act_p9 : GoodIn wsL_law wsL_act_r8 := goodIn_r _ [375, 376, 377, 378, 379, 380, 381, 382, 383, 21, 22, 191, 132, 384, 385, 386, 387, 388, 389, 390, 391, 183, 392, 393] (by decide +kernel) (by decide +kernel)
set_option maxRecDepth 20000 in
theorem ggL_law_L_act_p10 : GoodIn wsL_law wsL_act_r9 := goodIn_r _ [394, 395, 396, 397, 398, 399, 400, 38, 401, 402, 403, 37, 404, 405, 406, 407, 408, 96, 97, 409, 410, 180, 181, 182] (by decide +kernel) (by decide +kernel)
set_option maxRecDepth 20000 in
theorem ggL_law_L_act_p11 : GoodIn wsL_law wsL_act_r10 := goodIn_r _ [411, 412, 413, 414, 415, 416, 417, 418, 419, 188, 189, 190, 420, 204, 205, 206, 421, 422, 423, 95, 424, 103, 425, 209] (by decide +kernel) (by decide +kernel)
set_option maxRecDepth 20000 in
theorem ggL_law_L_act_p12 : GoodIn wsL_law wsL_act_r11 := goodIn_r _ [210, 211, 426, 427, 428, 429, 430, 431, 432, 433, 434, 435, 224, 225, 226, 436, 437, 438, 439, 440, 441, 442, 443, 444] (by decide +kernel) (by decide +kernel)
set_option maxRecDepth 20000 in
theorem ggL_law_L_act_p13 : GoodIn wsL_law wsL_act_r12 := goodIn_r _ [445, 446, 447, 448, 449, 450, 451, 30, 452, 453, 454, 455, 29, 456, 80, 81, 232, 233, 234, 235, 254, 255, 256, 257] (by decide +kernel) (by decide +kernel)
set_option maxRecDepth 20000 in
theorem ggL_law_L_act_p14 : GoodIn wsL_law wsL_act_r13 := goodIn_r _ [258, 236, 249, 237, 238, 245, 457, 458, 459, 460, 461, 246, 145, 146, 147, 148, 34, 175, 176, 177, 178, 179, 187, 192] (by decide +kernel) (by decide +kernel)
set_option maxRecDepth 20000 in
theorem ggL_law_L_act_p15 : GoodIn wsL_law wsL_act_r14 := goodIn_r _ [193, 194, 33, 195, 196, 88, 197, 198, 199, 200, 201, 202, 203, 207, 208, 212, 213, 214, 215, 216, 217, 218, 219, 220] (by decide +kernel) (by decide +kernel)
set_option maxRecDepth 20000 in
theorem ggL_law_L_act_p16 : GoodIn wsL_law wsL_act_r15 := goodIn_r _ [221, 222, 223, 227, 228, 229, 230, 82, 231, 239, 240, 241, 242, 244, 247, 248, 250, 251, 252, 253, 462, 463, 464, 465] (by decide +kernel) (by decide +kernel)
set_option maxRecDepth 20000 in
theorem ggL_law_L_act_p17 : GoodIn wsL_law wsL_act_r16 := goodIn_r _ [466, 467, 468, 469, 470, 471, 472, 473, 474, 475, 476, 477, 478, 479, 480, 481, 482, 47, 39, 43, 483, 484, 485, 486] (by decide +kernel) (by decide +kernel)
set_option maxRecDepth 20000 in
theorem ggL_law_L_act_p18 : GoodIn wsL_law wsL_act_r17 := goodIn_r _ [487, 488, 489, 490, 491, 492, 42, 493, 494, 495, 496, 497, 498, 499, 500, 501, 502, 503, 46, 504, 505, 506, 507, 508] (by decide +kernel) (by decide +kernel)
set_option maxRecDepth 20000 in
theorem ggL_law_L_act_p19 : GoodIn wsL_law wsL_act_r18 := goodIn_r _ [509, 510, 511, 512, 513, 514, 515, 516, 517, 518, 519, 111, 520, 521, 522, 523, 524, 525, 526, 527, 528, 529, 530, 531] (by decide +kernel) (by decide +kernel)
set_option maxRecDepth 20000 in
theorem ggL_law_L_act_p20 : GoodIn wsL_law wsL_act_r19 := goodIn_r _ [532, 533, 534, 535, 536, 537, 538, 539, 540, 541, 542, 543, 544, 545, 546, 547, 548, 549, 550, 551, 552, 553, 554, 555] (by decide +kernel) (by decide +kernel)
set_option maxRecDepth 20000 in
theorem ggL_law_L_act_p21 : GoodIn wsL_law wsL_act_r20 := goodIn_r _ [556, 557, 558, 559, 560, 561, 562, 563, 564, 51, 565, 566, 567, 50, 568, 117, 569, 570, 571, 572, 573, 574, 575, 576] (by decide +kernel) (by decide +kernel)
set_option maxRecDepth 20000 in
theorem ggL_law_L_act_p22 : GoodIn wsL_law wsL_act_r21 := goodIn_r _ [577, 578, 579, 580, 581, 582, 583, 584, 585, 586, 587, 588, 589, 590, 591, 592, 593, 594, 595, 596, 597, 598, 55, 599] (by decide +kernel) (by decide +kernel)
set_option maxRecDepth 20000 in
theorem ggL_law_L_act_p23 : GoodIn wsL_law wsL_act_r22 := goodIn_r _ [600, 601, 602, 603, 604, 54, 605, 606, 607, 608, 609, 610, 611, 612, 613, 614, 615, 616, 617, 618, 619, 620, 621, 622] (by decide +kernel) (by decide +kernel)
set_option maxRecDepth 20000 in
theorem ggL_law_L_act_p24 : GoodIn wsL_law wsL_act_r23 := goodIn_r _ [623, 624, 625, 626, 627, 628, 629, 630, 631, 632, 633, 634, 635, 636, 637, 638, 639, 640, 641, 642, 643, 644, 645, 646] (by decide +kernel) (by decide +kernel)
set_option maxRecDepth 20000 in
theorem ggL_law_L_act_p25 : GoodIn wsL_law wsL_act_r24 := goodIn_r _ [647, 648, 649, 650, 651, 652, 653, 654, 655, 656, 657, 658, 659] (by decide +kernel) (by decide +kernel)
set_option maxRecDepth 20000 in
theorem ggL_law_L_act_p26 : GoodIn wsL_law wsX110 := goodIn_r _ [690, 691, 692, 693, 694, 695, 696, 697, 698, 699, 700, 701] (by decide +kernel) (by decide +kernel)
set_option maxRecDepth 20000 in
theorem ggL_law_L_act_p27 : GoodIn wsL_law wsX30 := goodIn_r _ [731, 732, 733, 734, 735, 736, 737, 738] (by decide +kernel) (by decide +kernel)
set_option maxRecDepth 20000 in
theorem ggL_law_L_act_p28 : GoodIn wsL_law wsX40 := goodIn_r _ [702] (by decide +kernel) (by decide +kernel)
set_option maxRecDepth 20000 in
theorem ggL_law_L_act_p29 : GoodIn wsL_law wsX20 := goodIn_r _ [703, 704, 705, 706, 707, 708, 709, 710, 711, 712] (by decide +kernel) (by decide +kernel)
set_option maxRecDepth 20000 in
theorem ggL_law_L_act_p30 : GoodIn wsL_law wsX10 := goodIn_r _ [718, 719] (by decide +kernel) (by decide +kernel)
set_option maxRecDepth 20000 in
theorem ggL_law_L_act_p31 : GoodIn wsL_law wsX90 := goodIn_r _ [739] (by decide +kernel) (by decide +kernel)
set_option maxRecDepth 20000 in
theorem ggL_law_L_act_p32 : GoodIn wsL_law wsX100 := goodIn_r _ [713, 714, 715] (by decide +kernel) (by decide +kernel)
set_option maxRecDepth 20000 in
theorem ggL_law_L_act_p33 : GoodIn wsL_law wsX70 := goodIn_r _ [716, 717] (by decide +kernel) (by decide +kernel)
set_option maxRecDepth 20000 in
theorem ggL_law_L_act_p34 : GoodIn wsL_law wsX50 := goodIn_r _ [720, 721, 722] (by decide +kernel) (by decide +kernel)
set_option maxRecDepth 20000 in
theorem ggL_law_L_act_p35 : GoodIn wsL_law wsX80 := goodIn_r _ [723, 724] (by decide +kernel) (by decide +kernel)
set_option maxRecDepth 20000 in
theorem ggL_law_L_act_p36 : GoodIn wsL_law wsX60 := goodIn_r _ [725] (by decide +kernel) (by decide +kernel)
set_option maxRecDepth 20000 in
theorem ggL_law_L_act_p37 : GoodIn wsL_law wsX00 := goodIn_r _ [726, 727, 728, 729, 730] (by decide +kernel) (by decide +kernel)
set_option maxRecDepth 20000 in
theorem ggL_law_L_act : GoodIn wsL_law wsL_act := goodIn_ca (goodIn_ca (goodIn_ca (gI_cons ggL_law_L_act_p1 (goodIn_app (goodIn_app (goodIn_app (goodIn_app (goodIn_app (goodIn_app (goodIn_app (goodIn_app (goodIn_app (goodIn_app (goodIn_app (goodIn_app (goodIn_app ggL_law_L_act_p2 (goodIn_app ggL_law_L_act_p3 (goodIn_app ggL_law_L_act_p4 (goodIn_app ggL_law_L_act_p5 (goodIn_app ggL_law_L_act_p6 (goodIn_app ggL_law_L_act_p7 (goodIn_app ggL_law_L_act_p8 (goodIn_app ggL_law_L_act_p9 (goodIn_app ggL_law_L_act_p10 (goodIn_app ggL_law_L_act_p11 (goodIn_app ggL_law_L_act_p12 (goodIn_app ggL_law_L_act_p13 (goodIn_app ggL_law_L_act_p14 (goodIn_app ggL_law_L_act_p15 (goodIn_app ggL_law_L_act_p16 (goodIn_app ggL_law_L_act_p17 (goodIn_app ggL_law_L_act_p18 (goodIn_app ggL_law_L_act_p19 (goodIn_app ggL_law_L_act_p20 (goodIn_app ggL_law_L_act_p21 (goodIn_app ggL_law_L_act_p22 (goodIn_app ggL_law_L_act_p23 (goodIn_app ggL_law_L_act_p24 ggL_law_L_act_p25))))))))))))))))))))))) ggL_law_L_act_p26) ggL_law_L_act_p27) ggL_law_L_act_p28) ggL_law_L_act_p29) ggL_law_L_act_p30) ggL_law_L_act_p31) ggL_law_L_act_p32) ggL_law_L_act_p33) ggL_law_L_act_p34) ggL_law_L_act_p35) ggL_law_L_act_p36) ggL_law_L_act_p37)) (goodIn_sub (fun _ h => List.mem_append_right _ h) (by decide +kernel))) (goodIn_sub (fun _ h => List.mem_append_left _ (List.mem_append_left _ (List.mem_append_right _ h))) (by decide +kernel))) (goodIn_sub (fun _ h => List.mem_append_left _ (List.mem_append_right _ h)) (by decide +kernel))

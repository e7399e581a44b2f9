set_option maxRecDepth 20000 in
theorem ggL_glitch_L_act_p1 : GoodIn wsL_glitch [.codeWith yL_act cL_act 7 (some .int) [(0, 306, 307, 73), (0, 306, 312, 76), (0, 306, 317, 79)]] := gI_one (List.mem_cons_of_mem _ (List.mem_append_left _ (List.mem_append_left _ (List.mem_append_left _ (List.mem_append_left _ (List.mem_append_left _ (List.mem_append_left _ (List.mem_append_left _ (List.mem_append_left _ (List.mem_append_left _ (List.mem_append_left _ (List.mem_append_left _ (List.mem_append_left _ (List.mem_append_left _ (List.mem_append_left _ (List.mem_append_left _ (List.mem_append_right _ (List.mem_append_right _ (List.mem_append_right _ (List.mem_append_right _ (List.mem_append_right _ (List.mem_append_right _ (List.mem_append_right _ (List.mem_append_right _ (List.mem_append_right _ (List.mem_append_right _ (List.mem_append_right _ (List.mem_append_right _ (List.mem_append_right _ (List.mem_append_right _ (List.mem_append_right _ (List.mem_append_right _ (List.mem_append_left _ ((show (.codeWith yL_act cL_act 7 (some .int) [(0, 306, 307, 73), (0, 306, 312, 76), (0, 306, 317, 79)] : Cond) ∈ wsL_glitch_r17 from List.mem_of_getElem? (i := 16) rfl))))))))))))))))))))))))))))))))))) (by decide +kernel)
set_option maxRecDepth 20000 in
theorem ggL_glitch_L_act_p2 : GoodIn wsL_glitch wsL_act_r1 := goodIn_r _ [402, 403, 404, 405, 406, 1, 2, 3, 4, 5, 6, 7, 8, 9, 10, 11, 12, 13, 14, 15, 16, 17, 18, 19] (by decide +kernel) (by decide +kernel)
set_option maxRecDepth 20000 in
theorem ggL_glitch_L_act_p3 : GoodIn wsL_glitch wsL_act_r2 := goodIn_r _ [20, 21, 22, 23, 24, 25, 26, 27, 28, 29, 30, 31, 32, 33, 34, 35, 36, 37, 38, 39, 40, 41, 42, 43] (by decide +kernel) (by decide +kernel)
set_option maxRecDepth 20000 in
theorem ggL_glitch_L_act_p4 : GoodIn wsL_glitch wsL_act_r3 := goodIn_r _ [44, 45, 46, 47, 48, 49, 50, 51, 52, 53, 54, 55, 56, 57, 58, 59, 60, 61, 62, 63, 64, 65, 66, 67] (by decide +kernel) (by decide +kernel)
set_option maxRecDepth 20000 in
theorem ggL_glitch_L_act_p5 : GoodIn wsL_glitch wsL_act_r4 := goodIn_r _ [68, 69, 70, 71, 72, 73, 74, 75, 76, 407, 408, 409, 410, 411, 84, 85, 86, 87, 88, 412, 413, 414, 89, 90] (by decide +kernel) (by decide +kernel)
set_option maxRecDepth 20000 in
theorem ggL_glitch_L_act_p6 : GoodIn wsL_glitch wsL_act_r5 := goodIn_r _ [91, 92, 415, 416, 417, 418, 419, 420, 421, 422, 423, 424, 425, 426, 427, 428, 429, 430, 431, 432, 433, 434, 435, 436] (by decide +kernel) (by decide +kernel)
set_option maxRecDepth 20000 in
theorem ggL_glitch_L_act_p7 : GoodIn wsL_glitch wsL_act_r6 := goodIn_r _ [437, 438, 439, 440, 441, 442, 443, 444, 445, 446, 447, 448, 449, 450, 451, 452, 453, 454, 166, 103, 104, 105, 455, 456] (by decide +kernel) (by decide +kernel)
set_option maxRecDepth 20000 in
theorem ggL_glitch_L_act_p8 : GoodIn wsL_glitch wsL_act_r7 := goodIn_r _ [457, 458, 459, 460, 461, 462, 463, 464, 465, 466, 467, 468, 469, 470, 471, 472, 473, 474, 475, 476, 477, 478, 479, 480] (by decide +kernel) (by decide +kernel)
set_option maxRecDepth 20000 in
theorem ggL_glitch_L_act_p9 : GoodIn wsL_glitch wsL_act_r8 := goodIn_r _ [481, 482, 483, 484, 485, 486, 487, 488, 489, 82, 97, 110, 490, 491, 492, 493, 494, 495, 227, 228, 229, 102, 496, 497] (by decide +kernel) (by decide +kernel)
set_option maxRecDepth 20000 in
theorem ggL_glitch_L_act_p10 : GoodIn wsL_glitch wsL_act_r9 := goodIn_r _ [498, 499, 500, 501, 502, 503, 191, 192, 193, 194, 195, 196, 197, 198, 199, 200, 201, 202, 203, 204, 205, 99, 100, 101] (by decide +kernel) (by decide +kernel)
set_option maxRecDepth 20000 in
theorem ggL_glitch_L_act_p11 : GoodIn wsL_glitch wsL_act_r10 := goodIn_r _ [206, 207, 208, 209, 210, 211, 212, 213, 214, 107, 108, 109, 215, 125, 126, 127, 216, 217, 218, 219, 220, 221, 222, 130] (by decide +kernel) (by decide +kernel)
set_option maxRecDepth 20000 in
theorem ggL_glitch_L_act_p12 : GoodIn wsL_glitch wsL_act_r11 := goodIn_r _ [131, 132, 223, 224, 225, 226, 230, 231, 232, 233, 234, 235, 145, 146, 147, 504, 359, 360, 361, 187, 188, 189, 190, 236] (by decide +kernel) (by decide +kernel)
set_option maxRecDepth 20000 in
theorem ggL_glitch_L_act_p13 : GoodIn wsL_glitch wsL_act_r12 := goodIn_r _ [237, 238, 239, 240, 241, 242, 243, 83, 244, 245, 246, 247, 151, 248, 177, 249, 155, 156, 157, 158, 178, 179, 180, 181] (by decide +kernel) (by decide +kernel)
set_option maxRecDepth 20000 in
theorem ggL_glitch_L_act_p14 : GoodIn wsL_glitch wsL_act_r13 := goodIn_r _ [182, 159, 172, 160, 161, 168, 250, 251, 252, 253, 254, 169, 77, 78, 79, 80, 81, 93, 94, 95, 96, 98, 106, 111] (by decide +kernel) (by decide +kernel)
set_option maxRecDepth 20000 in
theorem ggL_glitch_L_act_p15 : GoodIn wsL_glitch wsL_act_r14 := goodIn_r _ [112, 113, 114, 115, 116, 117, 118, 119, 120, 121, 122, 123, 124, 128, 129, 133, 134, 135, 136, 137, 138, 139, 140, 141] (by decide +kernel) (by decide +kernel)
set_option maxRecDepth 20000 in
theorem ggL_glitch_L_act_p16 : GoodIn wsL_glitch wsL_act_r15 := goodIn_r _ [142, 143, 144, 148, 149, 150, 152, 153, 154, 162, 163, 164, 165, 167, 170, 171, 173, 174, 175, 176, 505, 506, 507, 508] (by decide +kernel) (by decide +kernel)
set_option maxRecDepth 20000 in
theorem ggL_glitch_L_act_p17 : GoodIn wsL_glitch wsL_act_r16 := goodIn_r _ [509, 510, 511, 512, 390, 391, 392, 393, 394, 395, 396, 397, 398, 258, 259, 260, 261, 262, 263, 264, 265, 266, 267, 268] (by decide +kernel) (by decide +kernel)
set_option maxRecDepth 20000 in
theorem ggL_glitch_L_act_p18 : GoodIn wsL_glitch wsL_act_r17 := goodIn_r _ [269, 270, 271, 272, 273, 274, 275, 276, 277, 278, 279, 280, 281, 282, 283, 284, 285, 286, 287, 288, 289, 290, 291, 292] (by decide +kernel) (by decide +kernel)
set_option maxRecDepth 20000 in
theorem ggL_glitch_L_act_p19 : GoodIn wsL_glitch wsL_act_r18 := goodIn_r _ [293, 294, 295, 296, 297, 298, 299, 300, 301, 302, 303, 304, 305, 306, 307, 308, 309, 310, 311, 312, 313, 314, 315, 316] (by decide +kernel) (by decide +kernel)
set_option maxRecDepth 20000 in
theorem ggL_glitch_L_act_p20 : GoodIn wsL_glitch wsL_act_r19 := goodIn_r _ [317, 318, 319, 320, 321, 322, 323, 324, 325, 326, 327, 328, 329, 330, 331, 332, 333, 334, 335, 336, 337, 338, 339, 340] (by decide +kernel) (by decide +kernel)
set_option maxRecDepth 20000 in
theorem ggL_glitch_L_act_p21 : GoodIn wsL_glitch wsL_act_r20 := goodIn_r _ [341, 342, 343, 344, 345, 346, 347, 348, 349, 350, 351, 352, 353, 354, 355, 356, 357, 358, 362, 363, 364, 365, 366, 367] (by decide +kernel) (by decide +kernel)
set_option maxRecDepth 20000 in
theorem ggL_glitch_L_act_p22 : GoodIn wsL_glitch wsL_act_r21 := goodIn_r _ [368, 369, 370, 371, 372, 373, 374, 375, 376, 377, 378, 379, 380, 381, 382, 383, 384, 385, 513, 514, 515, 516, 517, 518] (by decide +kernel) (by decide +kernel)
set_option maxRecDepth 20000 in
theorem ggL_glitch_L_act_p23 : GoodIn wsL_glitch wsL_act_r22 := goodIn_r _ [519, 520, 521, 522, 523, 524, 525, 526, 527, 528, 529, 530, 531, 532, 533, 534, 535, 536, 537, 538, 539, 540, 541, 542] (by decide +kernel) (by decide +kernel)
set_option maxRecDepth 20000 in
theorem ggL_glitch_L_act_p24 : GoodIn wsL_glitch wsL_act_r23 := goodIn_r _ [543, 544, 545, 546, 547, 548, 549, 550, 551, 552, 553, 554, 555, 556, 557, 558, 559, 560, 561, 562, 563, 564, 565, 566] (by decide +kernel) (by decide +kernel)
set_option maxRecDepth 20000 in
theorem ggL_glitch_L_act_p25 : GoodIn wsL_glitch wsL_act_r24 := goodIn_r _ [567, 568, 569, 570, 571, 572, 573, 574, 575, 576, 577, 578, 579] (by decide +kernel) (by decide +kernel)
set_option maxRecDepth 20000 in
theorem ggL_glitch_L_act_p26 : GoodIn wsL_glitch wsX110 := goodIn_r _ [583, 584, 585, 586, 587, 588, 589, 590, 591, 592, 593, 594] (by decide +kernel) (by decide +kernel)
set_option maxRecDepth 20000 in
theorem ggL_glitch_L_act_p27 : GoodIn wsL_glitch wsX30 := goodIn_r _ [595, 596, 597, 598, 599, 600, 601, 602] (by decide +kernel) (by decide +kernel)
set_option maxRecDepth 20000 in
theorem ggL_glitch_L_act_p28 : GoodIn wsL_glitch wsX40 := goodIn_r _ [603] (by decide +kernel) (by decide +kernel)
set_option maxRecDepth 20000 in
theorem ggL_glitch_L_act_p29 : GoodIn wsL_glitch wsX20 := goodIn_r _ [618, 619, 620, 621, 622, 623, 624, 625, 626, 627] (by decide +kernel) (by decide +kernel)
set_option maxRecDepth 20000 in
theorem ggL_glitch_L_act_p30 : GoodIn wsL_glitch wsX10 := goodIn_r _ [609, 610] (by decide +kernel) (by decide +kernel)
set_option maxRecDepth 20000 in
theorem ggL_glitch_L_act_p31 : GoodIn wsL_glitch wsX90 := goodIn_r _ [611] (by decide +kernel) (by decide +kernel)
set_option maxRecDepth 20000 in
theorem ggL_glitch_L_act_p32 : GoodIn wsL_glitch wsX100 := goodIn_r _ [606, 607, 608] (by decide +kernel) (by decide +kernel)
set_option maxRecDepth 20000 in
theorem ggL_glitch_L_act_p33 : GoodIn wsL_glitch wsX70 := goodIn_r _ [604, 605] (by decide +kernel) (by decide +kernel)
set_option maxRecDepth 20000 in
theorem ggL_glitch_L_act_p34 : GoodIn wsL_glitch wsX50 := goodIn_r _ [612, 613, 614] (by decide +kernel) (by decide +kernel)
set_option maxRecDepth 20000 in
theorem ggL_glitch_L_act_p35 : GoodIn wsL_glitch wsX80 := goodIn_r _ [615, 616] (by decide +kernel) (by decide +kernel)
set_option maxRecDepth 20000 in
theorem ggL_glitch_L_act_p36 : GoodIn wsL_glitch wsX60 := goodIn_r _ [617] (by decide +kernel) (by decide +kernel)
set_option maxRecDepth 20000 in
theorem ggL_glitch_L_act_p37 : GoodIn wsL_glitch wsX00 := goodIn_r _ [628, 629, 630, 631, 632] (by decide +kernel) (by decide +kernel)
set_option maxRecDepth 20000 in
theorem ggL_glitch_L_act : GoodIn wsL_glitch wsL_act := goodIn_ca (goodIn_ca (goodIn_ca (gI_cons ggL_glitch_L_act_p1 (goodIn_app (goodIn_app (goodIn_app (goodIn_app (goodIn_app (goodIn_app (goodIn_app (goodIn_app (goodIn_app (goodIn_app (goodIn_app (goodIn_app (goodIn_app ggL_glitch_L_act_p2 (goodIn_app ggL_glitch_L_act_p3 (goodIn_app ggL_glitch_L_act_p4 (goodIn_app ggL_glitch_L_act_p5 (goodIn_app ggL_glitch_L_act_p6 (goodIn_app ggL_glitch_L_act_p7 (goodIn_app ggL_glitch_L_act_p8 (goodIn_app ggL_glitch_L_act_p9 (goodIn_app ggL_glitch_L_act_p10 (goodIn_app ggL_glitch_L_act_p11 (goodIn_app ggL_glitch_L_act_p12 (goodIn_app ggL_glitch_L_act_p13 (goodIn_app ggL_glitch_L_act_p14 (goodIn_app ggL_glitch_L_act_p15 (goodIn_app ggL_glitch_L_act_p16 (goodIn_app ggL_glitch_L_act_p17 (goodIn_app ggL_glitch_L_act_p18 (goodIn_app ggL_glitch_L_act_p19 (goodIn_app ggL_glitch_L_act_p20 (goodIn_app ggL_glitch_L_act_p21 (goodIn_app ggL_glitch_L_act_p22 (goodIn_app ggL_glitch_L_act_p23 (goodIn_app ggL_glitch_L_act_p24 ggL_glitch_L_act_p25))))))))))))))))))))))) ggL_glitch_L_act_p26) ggL_glitch_L_act_p27) ggL_glitch_L_act_p28) ggL_glitch_L_act_p29) ggL_glitch_L_act_p30) ggL_glitch_L_act_p31) ggL_glitch_L_act_p32) ggL_glitch_L_act_p33) ggL_glitch_L_act_p34) ggL_glitch_L_act_p35) ggL_glitch_L_act_p36) ggL_glitch_L_act_p37)) (goodIn_sub (fun _ h => List.mem_cons_of_mem _ (List.mem_append_left _ (List.mem_append_left _ (List.mem_append_right _ h)))) (by decide +kernel))) (goodIn_sub (fun _ h => List.mem_cons_of_mem _ (List.mem_append_left _ (List.mem_append_right _ h))) (by decide +kernel))) (goodIn_sub (fun _ h => List.mem_cons_of_mem _ (List.mem_append_right _ h)) (by decide +kernel))

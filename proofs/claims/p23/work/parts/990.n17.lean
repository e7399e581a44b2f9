theorem ggL_refuses_L_act_p1 : GoodIn wsL_refuses [.codeWith yL_act cL_act 7 (some .int) [(0, 306, 307, 73), (0, 306, 312, 76), (0, 306, 317, 79)]] := goodIn_r _ [146] (by decide +kernel) (by decide +kernel)
set_option maxRecDepth 20000 in
theorem ggL_refuses_L_act_p2 : GoodIn wsL_refuses wsL_act_r1 := goodIn_r _ [147, 148, 149, 5, 6, 7, 150, 151, 152, 11, 153, 154, 155, 16, 17, 18, 19, 20, 21, 22, 156, 157, 158, 31] (by decide +kernel) (by decide +kernel)
set_option maxRecDepth 20000 in
theorem ggL_refuses_L_act_p3 : GoodIn wsL_refuses wsL_act_r2 := goodIn_r _ [159, 33, 34, 35, 36, 37, 38, 160, 161, 162, 163, 164, 165, 166, 167, 53, 82, 88, 168, 169, 91, 92, 57, 93] (by decide +kernel) (by decide +kernel)
set_option maxRecDepth 20000 in
theorem ggL_refuses_L_act_p4 : GoodIn wsL_refuses wsL_act_r3 := goodIn_r _ [59, 170, 171, 172, 173, 174, 175, 176, 177, 178, 179, 180, 181, 182, 183, 184, 185, 186, 187, 188, 189, 190, 191, 39] (by decide +kernel) (by decide +kernel)
set_option maxRecDepth 20000 in
theorem ggL_refuses_L_act_p5 : GoodIn wsL_refuses wsL_act_r4 := goodIn_r _ [40, 41, 42, 43, 192, 193, 194, 195, 107, 196, 197, 198, 199, 200, 23, 24, 25, 26, 27, 201, 202, 203, 28, 29] (by decide +kernel) (by decide +kernel)
set_option maxRecDepth 20000 in
theorem ggL_refuses_L_act_p6 : GoodIn wsL_refuses wsL_act_r5 := goodIn_r _ [30, 32, 204, 205, 206, 207, 208, 209, 210, 211, 212, 213, 214, 215, 216, 217, 218, 219, 220, 221, 222, 223, 224, 225] (by decide +kernel) (by decide +kernel)
set_option maxRecDepth 20000 in
theorem ggL_refuses_L_act_p7 : GoodIn wsL_refuses wsL_act_r6 := goodIn_r _ [226, 227, 228, 229, 230, 231, 232, 233, 234, 235, 236, 237, 238, 239, 240, 241, 242, 243, 126, 55, 56, 58, 244, 245] (by decide +kernel) (by decide +kernel)
set_option maxRecDepth 20000 in
theorem ggL_refuses_L_act_p8 : GoodIn wsL_refuses wsL_act_r7 := goodIn_r _ [246, 247, 248, 249, 250, 251, 252, 253, 254, 255, 256, 257, 258, 259, 260, 261, 262, 263, 264, 265, 266, 267, 268, 269] (by decide +kernel) (by decide +kernel)
set_option maxRecDepth 20000 in
theorem ggL_refuses_L_act_p9 : GoodIn wsL_refuses wsL_act_r8 := goodIn_r _ [270, 271, 272, 273, 274, 275, 276, 277, 278, 14, 48, 64, 279, 280, 281, 282, 283, 284, 285, 286, 287, 54, 288, 289] (by decide +kernel) (by decide +kernel)
set_option maxRecDepth 20000 in
theorem ggL_refuses_L_act_p10 : GoodIn wsL_refuses wsL_act_r9 := goodIn_r _ [290, 291, 292, 293, 294, 295, 296, 297, 298, 299, 300, 301, 302, 303, 304, 305, 306, 307, 308, 309, 310, 50, 51, 52] (by decide +kernel) (by decide +kernel)
set_option maxRecDepth 20000 in
theorem ggL_refuses_L_act_p11 : GoodIn wsL_refuses wsL_act_r10 := goodIn_r _ [311, 312, 313, 314, 315, 316, 317, 318, 319, 61, 62, 63, 320, 79, 80, 81, 321, 322, 323, 324, 325, 326, 327, 85] (by decide +kernel) (by decide +kernel)
set_option maxRecDepth 20000 in
theorem ggL_refuses_L_act_p12 : GoodIn wsL_refuses wsL_act_r11 := goodIn_r _ [86, 87, 328, 329, 330, 331, 332, 333, 334, 335, 336, 337, 104, 105, 106, 338, 339, 340, 341, 342, 343, 344, 345, 346] (by decide +kernel) (by decide +kernel)
set_option maxRecDepth 20000 in
theorem ggL_refuses_L_act_p13 : GoodIn wsL_refuses wsL_act_r12 := goodIn_r _ [347, 348, 349, 350, 351, 352, 353, 15, 354, 355, 356, 357, 111, 358, 137, 359, 115, 116, 117, 118, 138, 139, 140, 141] (by decide +kernel) (by decide +kernel)
set_option maxRecDepth 20000 in
theorem ggL_refuses_L_act_p14 : GoodIn wsL_refuses wsL_act_r13 := goodIn_r _ [142, 119, 132, 120, 121, 128, 360, 361, 362, 363, 364, 129, 8, 9, 10, 12, 13, 44, 45, 46, 47, 49, 60, 65] (by decide +kernel) (by decide +kernel)
set_option maxRecDepth 20000 in
theorem ggL_refuses_L_act_p15 : GoodIn wsL_refuses wsL_act_r14 := goodIn_r _ [66, 67, 68, 69, 70, 71, 72, 73, 74, 75, 76, 77, 78, 83, 84, 89, 90, 94, 95, 96, 97, 98, 99, 100] (by decide +kernel) (by decide +kernel)
set_option maxRecDepth 20000 in
theorem ggL_refuses_L_act_p16 : GoodIn wsL_refuses wsL_act_r15 := goodIn_r _ [101, 102, 103, 108, 109, 110, 112, 113, 114, 122, 123, 124, 125, 127, 130, 131, 133, 134, 135, 136, 365, 366, 367, 368] (by decide +kernel) (by decide +kernel)
set_option maxRecDepth 20000 in
theorem ggL_refuses_L_act_p17 : GoodIn wsL_refuses wsL_act_r16 := goodIn_r _ [369, 370, 371, 372, 373, 374, 375, 376, 377, 378, 379, 380, 381, 382, 383, 384, 385, 386, 387, 388, 389, 390, 391, 392] (by decide +kernel) (by decide +kernel)
set_option maxRecDepth 20000 in
theorem ggL_refuses_L_act_p18 : GoodIn wsL_refuses wsL_act_r17 := goodIn_r _ [393, 394, 395, 396, 397, 398, 399, 400, 401, 402, 403, 404, 405, 406, 407, 408, 409, 410, 411, 412, 413, 414, 415, 416] (by decide +kernel) (by decide +kernel)
set_option maxRecDepth 20000 in
theorem ggL_refuses_L_act_p19 : GoodIn wsL_refuses wsL_act_r18 := goodIn_r _ [417, 418, 419, 420, 421, 422, 423, 424, 425, 426, 427, 428, 429, 430, 431, 432, 433, 434, 435, 436, 437, 438, 439, 440] (by decide +kernel) (by decide +kernel)
set_option maxRecDepth 20000 in
theorem ggL_refuses_L_act_p20 : GoodIn wsL_refuses wsL_act_r19 := goodIn_r _ [441, 442, 443, 444, 445, 446, 447, 448, 449, 450, 451, 452, 453, 454, 455, 456, 457, 458, 459, 460, 461, 462, 463, 464] (by decide +kernel) (by decide +kernel)
set_option maxRecDepth 20000 in
theorem ggL_refuses_L_act_p21 : GoodIn wsL_refuses wsL_act_r20 := goodIn_r _ [465, 466, 467, 468, 469, 470, 471, 472, 473, 474, 475, 476, 477, 478, 479, 480, 481, 482, 483, 484, 485, 486, 487, 488] (by decide +kernel) (by decide +kernel)
set_option maxRecDepth 20000 in
theorem ggL_refuses_L_act_p22 : GoodIn wsL_refuses wsL_act_r21 := goodIn_r _ [489, 490, 491, 492, 493, 494, 495, 496, 497, 498, 499, 500, 501, 502, 503, 504, 505, 506, 507, 508, 509, 510, 511, 512] (by decide +kernel) (by decide +kernel)
set_option maxRecDepth 20000 in
theorem ggL_refuses_L_act_p23 : GoodIn wsL_refuses wsL_act_r22 := goodIn_r _ [513, 514, 515, 516, 517, 518, 519, 520, 521, 522, 523, 524, 525, 526, 527, 528, 529, 530, 531, 532, 533, 534, 535, 536] (by decide +kernel) (by decide +kernel)
set_option maxRecDepth 20000 in
theorem ggL_refuses_L_act_p24 : GoodIn wsL_refuses wsL_act_r23 := goodIn_r _ [537, 538, 539, 540, 541, 542, 543, 544, 545, 546, 547, 548, 549, 550, 551, 552, 553, 554, 555, 556, 557, 558, 559, 560] (by decide +kernel) (by decide +kernel)
set_option maxRecDepth 20000 in
theorem ggL_refuses_L_act_p25 : GoodIn wsL_refuses wsL_act_r24 := goodIn_r _ [561, 562, 563, 564, 565, 566, 567, 568, 569, 570, 571, 572, 573] (by decide +kernel) (by decide +kernel)
set_option maxRecDepth 20000 in
theorem ggL_refuses_L_act_p26 : GoodIn wsL_refuses wsX110 := goodIn_r _ [574, 575, 576, 577, 578, 579, 580, 581, 582, 583, 584, 585] (by decide +kernel) (by decide +kernel)
set_option maxRecDepth 20000 in
theorem ggL_refuses_L_act_p27 : GoodIn wsL_refuses wsX30 := goodIn_r _ [586, 587, 588, 589, 590, 591, 592, 593] (by decide +kernel) (by decide +kernel)
set_option maxRecDepth 20000 in
theorem ggL_refuses_L_act_p28 : GoodIn wsL_refuses wsX40 := goodIn_r _ [594] (by decide +kernel) (by decide +kernel)
set_option maxRecDepth 20000 in
theorem ggL_refuses_L_act_p29 : GoodIn wsL_refuses wsX20 := goodIn_r _ [600, 601, 602, 603, 604, 605, 606, 607, 608, 609] (by decide +kernel) (by decide +kernel)
set_option maxRecDepth 20000 in
theorem ggL_refuses_L_act_p30 : GoodIn wsL_refuses wsX10 := goodIn_r _ [610, 611] (by decide +kernel) (by decide +kernel)
set_option maxRecDepth 20000 in
theorem ggL_refuses_L_act_p31 : GoodIn wsL_refuses wsX90 := goodIn_r _ [612] (by decide +kernel) (by decide +kernel)
set_option maxRecDepth 20000 in
theorem ggL_refuses_L_act_p32 : GoodIn wsL_refuses wsX100 := goodIn_r _ [597, 598, 599] (by decide +kernel) (by decide +kernel)
set_option maxRecDepth 20000 in
theorem ggL_refuses_L_act_p33 : GoodIn wsL_refuses wsX70 := goodIn_r _ [595, 596] (by decide +kernel) (by decide +kernel)
set_option maxRecDepth 20000 in
theorem ggL_refuses_L_act_p34 : GoodIn wsL_refuses wsX50 := goodIn_r _ [613, 614, 615] (by decide +kernel) (by decide +kernel)
set_option maxRecDepth 20000 in
theorem ggL_refuses_L_act_p35 : GoodIn wsL_refuses wsX80 := goodIn_r _ [616, 617] (by decide +kernel) (by decide +kernel)
set_option maxRecDepth 20000 in
theorem ggL_refuses_L_act_p36 : GoodIn wsL_refuses wsX60 := goodIn_r _ [618] (by decide +kernel) (by decide +kernel)
set_option maxRecDepth 20000 in
theorem ggL_refuses_L_act_p37 : GoodIn wsL_refuses wsX00 := goodIn_r _ [619, 620, 621, 622, 623] (by decide +kernel) (by decide +kernel)
set_option maxRecDepth 20000 in
theorem ggL_refuses_L_act : GoodIn wsL_refuses wsL_act := goodIn_ca (goodIn_ca (goodIn_ca (gI_cons ggL_refuses_L_act_p1 (goodIn_app (goodIn_app (goodIn_app (goodIn_app (goodIn_app (goodIn_app (goodIn_app (goodIn_app (goodIn_app (goodIn_app (goodIn_app (goodIn_app (goodIn_app ggL_refuses_L_act_p2 (goodIn_app ggL_refuses_L_act_p3 (goodIn_app ggL_refuses_L_act_p4 (goodIn_app ggL_refuses_L_act_p5 (goodIn_app ggL_refuses_L_act_p6 (goodIn_app ggL_refuses_L_act_p7 (goodIn_app ggL_refuses_L_act_p8 (goodIn_app ggL_refuses_L_act_p9 (goodIn_app ggL_refuses_L_act_p10 (goodIn_app ggL_refuses_L_act_p11 (goodIn_app ggL_refuses_L_act_p12 (goodIn_app ggL_refuses_L_act_p13 (goodIn_app ggL_refuses_L_act_p14 (goodIn_app ggL_refuses_L_act_p15 (goodIn_app ggL_refuses_L_act_p16 (goodIn_app ggL_refuses_L_act_p17 (goodIn_app ggL_refuses_L_act_p18 (goodIn_app ggL_refuses_L_act_p19 (goodIn_app ggL_refuses_L_act_p20 (goodIn_app ggL_refuses_L_act_p21 (goodIn_app ggL_refuses_L_act_p22 (goodIn_app ggL_refuses_L_act_p23 (goodIn_app ggL_refuses_L_act_p24 ggL_refuses_L_act_p25))))))))))))))))))))))) ggL_refuses_L_act_p26) ggL_refuses_L_act_p27) ggL_refuses_L_act_p28) ggL_refuses_L_act_p29) ggL_refuses_L_act_p30) ggL_refuses_L_act_p31) ggL_refuses_L_act_p32) ggL_refuses_L_act_p33) ggL_refuses_L_act_p34) ggL_refuses_L_act_p35) ggL_refuses_L_act_p36) ggL_refuses_L_act_p37)) (goodIn_sub (fun _ h => List.mem_cons_of_mem _ (List.mem_append_right _ h)) (by decide +kernel))) (goodIn_sub (fun _ h => List.mem_cons_of_mem _ (List.mem_append_left _ (List.mem_append_left _ (List.mem_append_right _ h)))) (by decide +kernel))) (goodIn_sub (fun _ h => List.mem_cons_of_mem _ (List.mem_append_left _ (List.mem_append_right _ h))) (by decide +kernel))

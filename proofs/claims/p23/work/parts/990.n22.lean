set_option maxRecDepth 20000 in
theorem ggL_adders_L_most_p1 : GoodIn wsL_adders [.code yL_most cL_most 2 (some .boolean)] := gI_one (List.mem_cons_of_mem _ (List.mem_append_left _ (List.mem_append_left _ (List.mem_append_left _ (List.mem_append_left _ (List.mem_append_left _ (List.mem_append_left _ (List.mem_append_left _ (List.mem_append_left _ (List.mem_append_left _ (List.mem_append_left _ (List.mem_append_left _ (List.mem_append_left _ (List.mem_append_left _ (List.mem_append_left _ (List.mem_append_left _ (List.mem_append_right _ (List.mem_append_right _ (List.mem_append_right _ (List.mem_append_right _ (List.mem_append_right _ (List.mem_append_right _ (List.mem_append_right _ (List.mem_append_right _ (List.mem_append_right _ (List.mem_append_right _ (List.mem_append_right _ (List.mem_append_right _ (List.mem_append_right _ (List.mem_append_right _ (List.mem_append_right _ (List.mem_append_right _ (List.mem_append_right _ (List.mem_append_right _ (List.mem_append_right _ (List.mem_append_right _ (List.mem_append_right _ (List.mem_append_right _ (List.mem_append_right _ (List.mem_append_right _ (List.mem_append_right _ (List.mem_append_right _ (List.mem_append_right _ (List.mem_append_right _ ((show (.code yL_most cL_most 2 (some .boolean) : Cond) ∈ wsL_adders_r29 from List.mem_of_getElem? (i := 13) rfl)))))))))))))))))))))))))))))))))))))))))))))) (by decide +kernel)
set_option maxRecDepth 20000 in
theorem ggL_adders_L_most_p2 : GoodIn wsL_adders wsL_most_r1 := goodIn_r _ [1, 2, 3, 5, 683, 687, 7, 8, 9, 10, 11, 12, 13, 14, 15, 16, 17, 18, 19, 20, 21, 22, 23, 24] (by decide +kernel) (by decide +kernel)
set_option maxRecDepth 20000 in
theorem ggL_adders_L_most_p3 : GoodIn wsL_adders wsL_most_r2 := goodIn_r _ [25, 26, 27, 28, 29, 30, 31, 32, 33, 34, 35, 36, 37, 38, 39, 40, 41, 42, 43, 44, 45, 46, 47, 48] (by decide +kernel) (by decide +kernel)
set_option maxRecDepth 20000 in
theorem ggL_adders_L_most_p4 : GoodIn wsL_adders wsL_most_r3 := goodIn_r _ [49, 50, 51, 52, 53, 54, 55, 56, 57, 58, 59, 60, 61, 62, 63, 64, 65, 66, 67, 68, 69, 70, 71, 72] (by decide +kernel) (by decide +kernel)
set_option maxRecDepth 20000 in
theorem ggL_adders_L_most_p5 : GoodIn wsL_adders wsL_most_r4 := goodIn_r _ [73, 74, 75, 76, 77, 78, 79, 80, 81, 82, 83, 84, 85, 86, 87, 88, 89, 90, 91, 92, 93, 94, 95, 96] (by decide +kernel) (by decide +kernel)
set_option maxRecDepth 20000 in
theorem ggL_adders_L_most_p6 : GoodIn wsL_adders wsL_most_r5 := goodIn_r _ [97, 98, 99, 100, 101, 102, 103, 104, 105, 106, 107, 108, 109, 110, 111, 112, 113, 114, 115, 116, 117, 118, 119, 120] (by decide +kernel) (by decide +kernel)
set_option maxRecDepth 20000 in
theorem ggL_adders_L_most_p7 : GoodIn wsL_adders wsL_most_r6 := goodIn_app (goodIn_r [Cond.methodLink RX3 3 objectInit, Cond.classLink RX3 9 RX4, Cond.fieldLink RX3 14 "GateLedger$Net" "kinds" "LGateLedger$Row;", Cond.fieldLink RX3 20 "GateLedger$Net" "firsts" "LGateLedger$Row;", Cond.fieldLink RX3 23 "GateLedger$Net" "seconds" "LGateLedger$Row;", Cond.fieldLink RX3 26 "GateLedger$Net" "stuckBits" "LGateLedger$Row;", Cond.fieldLink RX3 29 "GateLedger$Net" "outs" "LGateLedger$Row;", Cond.methodLink RX3 11 yX4_init, Cond.methodLink RX11 87 yX4_put, Cond.instanceMethod yX4_put, Cond.selects RX4 yX4_put yX4_put, Cond.code yX4_put cX4_put 3 none, Cond.methodLink RL 86 yL_act, Cond.static yL_act, Cond.initialized RL] [121, 122, 123, 124, 125, 126, 127, 128, 129, 130, 131, 132, 257, 258, 135] (by decide +kernel) (by decide +kernel)) (gI_cons (c := Cond.codeWith yL_act cL_act 7 (some .int) [(0, 306, 307, 73), (0, 306, 312, 76), (0, 306, 317, 79)]) (gI_one (List.mem_cons_of_mem _ (List.mem_append_left _ (List.mem_append_left _ (List.mem_append_left _ (List.mem_append_left _ (List.mem_append_left _ (List.mem_append_left _ (List.mem_append_left _ (List.mem_append_left _ (List.mem_append_left _ (List.mem_append_left _ (List.mem_append_left _ (List.mem_append_left _ (List.mem_append_left _ (List.mem_append_left _ (List.mem_append_left _ (List.mem_append_right _ (List.mem_append_right _ (List.mem_append_right _ (List.mem_append_right _ (List.mem_append_right _ (List.mem_append_right _ (List.mem_append_right _ (List.mem_append_right _ (List.mem_append_right _ (List.mem_append_right _ (List.mem_append_left _ ((show (Cond.codeWith yL_act cL_act 7 (some .int) [(0, 306, 307, 73), (0, 306, 312, 76), (0, 306, 317, 79)] : Cond) ∈ wsL_adders_r11 from List.mem_of_getElem? (i := 18) rfl))))))))))))))))))))))))))))) (by decide +kernel)) (goodIn_r [Cond.classLink RL 73 "java/lang/IndexOutOfBoundsException", Cond.classLink RL 76 "java/lang/IllegalArgumentException", Cond.classLink RL 79 "java/lang/IllegalStateException", Cond.constant RL 75 (-7000001), Cond.constant RL 78 (-7000002), Cond.methodLink RL 7 yX11_input, Cond.instanceMethod yX11_input, Cond.selects RX11 yX11_input yX11_input] [260, 261, 262, 141, 142, 263, 264, 265] (by decide +kernel) (by decide +kernel)))
set_option maxRecDepth 20000 in
theorem ggL_adders_L_most_p8 : GoodIn wsL_adders wsL_most_r7 := goodIn_r _ [266, 267, 268, 147, 148, 149, 150, 151, 152, 269, 270, 271, 272, 162, 163, 164, 165, 166, 167, 273, 274, 275, 276, 277] (by decide +kernel) (by decide +kernel)
set_option maxRecDepth 20000 in
theorem ggL_adders_L_most_p9 : GoodIn wsL_adders wsL_most_r8 := goodIn_r _ [278, 279, 280, 281, 282, 283, 284, 285, 286, 287, 288, 289, 290, 291, 292, 293, 294, 295, 296, 297, 298, 299, 300, 301] (by decide +kernel) (by decide +kernel)
set_option maxRecDepth 20000 in
theorem ggL_adders_L_most_p10 : GoodIn wsL_adders wsL_most_r9 := goodIn_r _ [302, 303, 168, 169, 170, 171, 172, 304, 305, 306, 307, 308, 309, 310, 311, 153, 154, 155, 156, 157, 312, 313, 314, 158] (by decide +kernel) (by decide +kernel)
set_option maxRecDepth 20000 in
theorem ggL_adders_L_most_p11 : GoodIn wsL_adders wsL_most_r10 := goodIn_r _ [159, 160, 161, 315, 316, 317, 318, 319, 320, 321, 322, 323, 324, 325, 326, 327, 328, 329, 330, 331, 332, 333, 334, 335] (by decide +kernel) (by decide +kernel)
set_option maxRecDepth 20000 in
theorem ggL_adders_L_most_p12 : GoodIn wsL_adders wsL_most_r11 := goodIn_r _ [336, 337, 338, 339, 340, 341, 342, 343, 344, 345, 346, 347, 348, 241, 182, 183, 184, 349, 350, 351, 352, 353, 354, 355] (by decide +kernel) (by decide +kernel)
set_option maxRecDepth 20000 in
theorem ggL_adders_L_most_p13 : GoodIn wsL_adders wsL_most_r12 := goodIn_r _ [356, 357, 358, 359, 360, 361, 362, 363, 364, 365, 366, 367, 368, 369, 370, 371, 372, 373, 374, 375, 376, 377, 378, 379] (by decide +kernel) (by decide +kernel)
set_option maxRecDepth 20000 in
theorem ggL_adders_L_most_p14 : GoodIn wsL_adders wsL_most_r13 := goodIn_r _ [380, 381, 189, 382, 383, 384, 385, 386, 387, 388, 389, 181, 390, 391, 392, 393, 394, 395, 396, 397, 398, 399, 400, 401] (by decide +kernel) (by decide +kernel)
set_option maxRecDepth 20000 in
theorem ggL_adders_L_most_p15 : GoodIn wsL_adders wsL_most_r14 := goodIn_r _ [402, 403, 404, 405, 406, 407, 408, 178, 179, 180, 409, 410, 411, 412, 413, 414, 415, 416, 417, 186, 187, 188, 418, 202] (by decide +kernel) (by decide +kernel)
set_option maxRecDepth 20000 in
theorem ggL_adders_L_most_p16 : GoodIn wsL_adders wsL_most_r15 := goodIn_r _ [203, 204, 419, 420, 421, 422, 423, 207, 208, 209, 424, 425, 426, 427, 428, 429, 430, 431, 432, 433, 222, 223, 224, 434] (by decide +kernel) (by decide +kernel)
set_option maxRecDepth 20000 in
theorem ggL_adders_L_most_p17 : GoodIn wsL_adders wsL_most_r16 := goodIn_r _ [435, 436, 437, 438, 439, 440, 441, 442, 443, 444, 445, 446, 447, 448, 449, 450, 451, 452, 453, 454, 230, 231, 232, 233] (by decide +kernel) (by decide +kernel)
set_option maxRecDepth 20000 in
theorem ggL_adders_L_most_p18 : GoodIn wsL_adders wsL_most_r17 := goodIn_r _ [252, 253, 254, 255, 256, 234, 247, 235, 236, 243, 455, 456, 457, 458, 459, 244, 143, 144, 145, 146, 173, 174, 175, 176] (by decide +kernel) (by decide +kernel)
set_option maxRecDepth 20000 in
theorem ggL_adders_L_most_p19 : GoodIn wsL_adders wsL_most_r18 := goodIn_r _ [177, 185, 190, 191, 192, 193, 194, 195, 196, 197, 198, 199, 200, 201, 205, 206, 210, 211, 212, 213, 214, 215, 216, 217] (by decide +kernel) (by decide +kernel)
set_option maxRecDepth 20000 in
theorem ggL_adders_L_most_p20 : GoodIn wsL_adders wsL_most_r19 := goodIn_r _ [218, 219, 220, 221, 225, 226, 227, 228, 229, 237, 238, 239, 240, 242, 245, 246, 248, 249, 250, 251, 460, 461, 462, 463] (by decide +kernel) (by decide +kernel)
set_option maxRecDepth 20000 in
theorem ggL_adders_L_most_p21 : GoodIn wsL_adders wsL_most_r20 := goodIn_r _ [464, 465, 466, 467, 468, 469, 470, 471, 472, 473, 474, 475, 476, 477, 478, 479, 480, 481, 482, 483, 484, 485, 486, 487] (by decide +kernel) (by decide +kernel)
set_option maxRecDepth 20000 in
theorem ggL_adders_L_most_p22 : GoodIn wsL_adders wsL_most_r21 := goodIn_r _ [488, 489, 490, 491, 492, 493, 494, 495, 496, 497, 498, 499, 500, 501, 502, 503, 504, 505, 506, 507, 508, 509, 510, 511] (by decide +kernel) (by decide +kernel)
set_option maxRecDepth 20000 in
theorem ggL_adders_L_most_p23 : GoodIn wsL_adders wsL_most_r22 := goodIn_r _ [512, 513, 514, 515, 516, 517, 518, 519, 520, 521, 522, 523, 524, 525, 526, 527, 528, 529, 530, 531, 532, 533, 534, 535] (by decide +kernel) (by decide +kernel)
set_option maxRecDepth 20000 in
theorem ggL_adders_L_most_p24 : GoodIn wsL_adders wsL_most_r23 := goodIn_r _ [536, 537, 538, 539, 540, 541, 542, 543, 544, 545, 546, 547, 548, 549, 550, 551, 552, 553, 554, 555, 556, 557, 558, 559] (by decide +kernel) (by decide +kernel)
set_option maxRecDepth 20000 in
theorem ggL_adders_L_most_p25 : GoodIn wsL_adders wsL_most_r24 := goodIn_r _ [560, 561, 562, 563, 564, 565, 566, 567, 568, 569, 570, 571, 572, 573, 574, 575, 576, 577, 578, 579, 580, 581, 582, 583] (by decide +kernel) (by decide +kernel)
set_option maxRecDepth 20000 in
theorem ggL_adders_L_most_p26 : GoodIn wsL_adders wsL_most_r25 := goodIn_r _ [584, 585, 586, 587, 588, 589, 590, 591, 592, 593, 594, 595, 596, 597, 598, 599, 600, 601, 602, 603, 604, 605, 606, 607] (by decide +kernel) (by decide +kernel)
set_option maxRecDepth 20000 in
theorem ggL_adders_L_most_p27 : GoodIn wsL_adders wsL_most_r26 := goodIn_r _ [608, 609, 610, 611, 612, 613, 614, 615, 616, 617, 618, 619, 620, 621, 622, 623, 624, 625, 626, 627, 628, 629, 630, 631] (by decide +kernel) (by decide +kernel)
set_option maxRecDepth 20000 in
theorem ggL_adders_L_most_p28 : GoodIn wsL_adders wsL_most_r27 := goodIn_r _ [632, 633, 634, 635, 636, 637, 638, 639, 640, 641, 642, 643, 644, 645, 646, 647, 648, 649, 650, 651, 652, 653, 654, 655] (by decide +kernel) (by decide +kernel)
set_option maxRecDepth 20000 in
theorem ggL_adders_L_most_p29 : GoodIn wsL_adders wsL_most_r28 := goodIn_app (goodIn_r [Cond.code yX11_digit cX11_digit 5 (some .int), Cond.constant RX11 272 (2147483647), Cond.methodLink RL 97 yL_net, Cond.static yL_net, Cond.code yL_net cL_net 8 (some .boolean), Cond.methodLink RL 102 yL_value, Cond.static yL_value, Cond.code yL_value cL_value 4 (some .boolean), Cond.methodLink RL 108 yL_changes, Cond.static yL_changes, Cond.code yL_changes cL_changes 7 (some .boolean), Cond.methodLink RL 93 yL_refuses, Cond.static yL_refuses] [656, 657, 658, 659, 660, 661, 662, 663, 667, 668, 669, 133, 134] (by decide +kernel) (by decide +kernel)) (gI_cons (c := Cond.code yL_refuses cL_refuses 12 (some .boolean)) (gI_one (List.mem_cons_of_mem _ (List.mem_append_left _ (List.mem_append_left _ (List.mem_append_left _ (List.mem_append_left _ (List.mem_append_left _ (List.mem_append_left _ (List.mem_append_left _ (List.mem_append_left _ (List.mem_append_left _ (List.mem_append_left _ (List.mem_append_left _ (List.mem_append_left _ (List.mem_append_left _ (List.mem_append_left _ (List.mem_append_left _ (List.mem_append_right _ (List.mem_append_right _ (List.mem_append_right _ (List.mem_append_right _ (List.mem_append_right _ (List.mem_append_left _ ((show (Cond.code yL_refuses cL_refuses 12 (some .boolean) : Cond) ∈ wsL_adders_r6 from List.mem_of_getElem? (i := 15) rfl)))))))))))))))))))))))) (by decide +kernel)) (goodIn_r [Cond.constant RL 82 (2147483647), Cond.constant RL 83 (40000), Cond.constant RL 84 (8000000), Cond.constant RL 85 (1073741824)] [137, 138, 139, 140] (by decide +kernel) (by decide +kernel)))
set_option maxRecDepth 20000 in
theorem ggL_adders_L_most_p30 : GoodIn wsL_adders wsX110 := goodIn_r _ [688, 689, 690, 691, 692, 693, 694, 695, 696, 697, 698, 699] (by decide +kernel) (by decide +kernel)
set_option maxRecDepth 20000 in
theorem ggL_adders_L_most_p31 : GoodIn wsL_adders wsX40 := goodIn_r _ [700] (by decide +kernel) (by decide +kernel)
set_option maxRecDepth 20000 in
theorem ggL_adders_L_most_p32 : GoodIn wsL_adders wsX20 := goodIn_r _ [701, 702, 703, 704, 705, 706, 707, 708, 709, 710] (by decide +kernel) (by decide +kernel)
set_option maxRecDepth 20000 in
theorem ggL_adders_L_most_p33 : GoodIn wsL_adders wsX100 := goodIn_r _ [711, 712, 713] (by decide +kernel) (by decide +kernel)
set_option maxRecDepth 20000 in
theorem ggL_adders_L_most_p34 : GoodIn wsL_adders wsX70 := goodIn_r _ [714, 715] (by decide +kernel) (by decide +kernel)
set_option maxRecDepth 20000 in
theorem ggL_adders_L_most_p35 : GoodIn wsL_adders wsX10 := goodIn_r _ [716, 717] (by decide +kernel) (by decide +kernel)
set_option maxRecDepth 20000 in
theorem ggL_adders_L_most_p36 : GoodIn wsL_adders wsX50 := goodIn_r _ [718, 719, 720] (by decide +kernel) (by decide +kernel)
set_option maxRecDepth 20000 in
theorem ggL_adders_L_most_p37 : GoodIn wsL_adders wsX80 := goodIn_r _ [721, 722] (by decide +kernel) (by decide +kernel)
set_option maxRecDepth 20000 in
theorem ggL_adders_L_most_p38 : GoodIn wsL_adders wsX60 := goodIn_r _ [723] (by decide +kernel) (by decide +kernel)
set_option maxRecDepth 20000 in
theorem ggL_adders_L_most_p39 : GoodIn wsL_adders wsX00 := goodIn_r _ [724, 725, 726, 727, 728] (by decide +kernel) (by decide +kernel)
set_option maxRecDepth 20000 in
theorem ggL_adders_L_most_p40 : GoodIn wsL_adders wsX30 := goodIn_r _ [729, 730, 731, 732, 733, 734, 735, 736] (by decide +kernel) (by decide +kernel)
set_option maxRecDepth 20000 in
theorem ggL_adders_L_most_p41 : GoodIn wsL_adders wsX90 := goodIn_r _ [737] (by decide +kernel) (by decide +kernel)
set_option maxRecDepth 20000 in
theorem ggL_adders_L_most : GoodIn wsL_adders wsL_most := goodIn_ca (goodIn_ca (goodIn_ca (gI_cons ggL_adders_L_most_p1 (goodIn_app (goodIn_app (goodIn_app (goodIn_app (goodIn_app (goodIn_app (goodIn_app (goodIn_app (goodIn_app (goodIn_app (goodIn_app (goodIn_app (goodIn_app ggL_adders_L_most_p2 (goodIn_app ggL_adders_L_most_p3 (goodIn_app ggL_adders_L_most_p4 (goodIn_app ggL_adders_L_most_p5 (goodIn_app ggL_adders_L_most_p6 (goodIn_app ggL_adders_L_most_p7 (goodIn_app ggL_adders_L_most_p8 (goodIn_app ggL_adders_L_most_p9 (goodIn_app ggL_adders_L_most_p10 (goodIn_app ggL_adders_L_most_p11 (goodIn_app ggL_adders_L_most_p12 (goodIn_app ggL_adders_L_most_p13 (goodIn_app ggL_adders_L_most_p14 (goodIn_app ggL_adders_L_most_p15 (goodIn_app ggL_adders_L_most_p16 (goodIn_app ggL_adders_L_most_p17 (goodIn_app ggL_adders_L_most_p18 (goodIn_app ggL_adders_L_most_p19 (goodIn_app ggL_adders_L_most_p20 (goodIn_app ggL_adders_L_most_p21 (goodIn_app ggL_adders_L_most_p22 (goodIn_app ggL_adders_L_most_p23 (goodIn_app ggL_adders_L_most_p24 (goodIn_app ggL_adders_L_most_p25 (goodIn_app ggL_adders_L_most_p26 (goodIn_app ggL_adders_L_most_p27 (goodIn_app ggL_adders_L_most_p28 ggL_adders_L_most_p29))))))))))))))))))))))))))) ggL_adders_L_most_p30) ggL_adders_L_most_p31) ggL_adders_L_most_p32) ggL_adders_L_most_p33) ggL_adders_L_most_p34) ggL_adders_L_most_p35) ggL_adders_L_most_p36) ggL_adders_L_most_p37) ggL_adders_L_most_p38) ggL_adders_L_most_p39) ggL_adders_L_most_p40) ggL_adders_L_most_p41)) (goodIn_sub (fun _ h => List.mem_cons_of_mem _ (List.mem_append_right _ h)) (by decide +kernel))) (goodIn_sub (fun _ h => List.mem_cons_of_mem _ (List.mem_append_left _ (List.mem_append_left _ (List.mem_append_right _ h)))) (by decide +kernel))) (goodIn_sub (fun _ h => List.mem_cons_of_mem _ (List.mem_append_left _ (List.mem_append_right _ h))) (by decide +kernel))

set_option maxRecDepth 20000 in
theorem ggL_most_L_refuses_p1 : GoodIn wsL_most [.code yL_refuses cL_refuses 12 (some .boolean)] := gI_one (List.mem_cons_of_mem _ (List.mem_append_left _ (List.mem_append_left _ (List.mem_append_left _ (List.mem_append_left _ (List.mem_append_left _ (List.mem_append_left _ (List.mem_append_left _ (List.mem_append_left _ (List.mem_append_left _ (List.mem_append_left _ (List.mem_append_left _ (List.mem_append_left _ (List.mem_append_left _ (List.mem_append_left _ (List.mem_append_left _ (List.mem_append_right _ (List.mem_append_right _ (List.mem_append_right _ (List.mem_append_right _ (List.mem_append_right _ (List.mem_append_right _ (List.mem_append_right _ (List.mem_append_right _ (List.mem_append_right _ (List.mem_append_right _ (List.mem_append_right _ (List.mem_append_right _ (List.mem_append_right _ (List.mem_append_right _ (List.mem_append_right _ (List.mem_append_right _ (List.mem_append_right _ (List.mem_append_right _ (List.mem_append_right _ (List.mem_append_right _ (List.mem_append_right _ (List.mem_append_right _ (List.mem_append_right _ (List.mem_append_right _ (List.mem_append_right _ (List.mem_append_right _ (List.mem_append_right _ ((show (.code yL_refuses cL_refuses 12 (some .boolean) : Cond) ∈ wsL_most_r28 from List.mem_of_getElem? (i := 13) rfl))))))))))))))))))))))))))))))))))))))))))))) (by decide +kernel)
set_option maxRecDepth 20000 in
theorem ggL_most_L_refuses_p2 : GoodIn wsL_most wsL_refuses_r1 := goodIn_r _ [663, 664, 665, 666, 140, 141, 4, 401, 402, 403, 3, 404, 31, 18, 27, 148, 149, 150, 151, 152, 153, 14, 208, 209] (by decide +kernel) (by decide +kernel)
set_option maxRecDepth 20000 in
theorem ggL_most_L_refuses_p3 : GoodIn wsL_most wsL_refuses_r2 := goodIn_r _ [210, 211, 212, 216, 217, 218, 54, 219, 158, 159, 160, 161, 162, 163, 195, 196, 197, 198, 199, 405, 406, 407, 408, 19] (by decide +kernel) (by decide +kernel)
set_option maxRecDepth 20000 in
theorem ggL_most_L_refuses_p4 : GoodIn wsL_most wsL_refuses_r3 := goodIn_r _ [409, 320, 321, 322, 123, 300, 255, 256, 17, 257, 60, 410, 332, 333, 334, 291, 411, 412, 413, 30, 414, 415, 85, 416] (by decide +kernel) (by decide +kernel)
set_option maxRecDepth 20000 in
theorem ggL_most_L_refuses_p5 : GoodIn wsL_most wsL_refuses_r4 := goodIn_r _ [417, 418, 419, 420, 421, 422, 336, 337, 338, 124, 423, 424, 344, 345, 346, 125, 425, 426, 130, 131, 132, 427, 428, 429] (by decide +kernel) (by decide +kernel)
set_option maxRecDepth 20000 in
theorem ggL_most_L_refuses_p6 : GoodIn wsL_most wsL_refuses_r5 := goodIn_r _ [430, 431, 432, 433, 434, 435, 436, 357, 358, 359, 127, 437, 438, 439, 26, 440, 79, 441, 381, 382, 383, 384, 390, 392] (by decide +kernel) (by decide +kernel)
set_option maxRecDepth 20000 in
theorem ggL_most_L_refuses_p7 : GoodIn wsL_most wsL_refuses_r6 := goodIn_r _ [393, 442, 443, 444, 445, 254, 446, 394, 400, 447, 448, 391, 449, 450, 451, 452, 77, 385, 386, 387, 388, 389, 133, 134] (by decide +kernel) (by decide +kernel)
set_option maxRecDepth 20000 in
theorem ggL_most_L_refuses_p8 : GoodIn wsL_most wsL_refuses_r7 := goodIn_app (goodIn_r [Cond.initialized RL] [135] (by decide +kernel) (by decide +kernel)) (gI_cons (c := Cond.codeWith yL_act cL_act 7 (some .int) [(0, 306, 307, 73), (0, 306, 312, 76), (0, 306, 317, 79)]) (gI_one (List.mem_cons_of_mem _ (List.mem_append_left _ (List.mem_append_left _ (List.mem_append_left _ (List.mem_append_left _ (List.mem_append_left _ (List.mem_append_left _ (List.mem_append_left _ (List.mem_append_left _ (List.mem_append_left _ (List.mem_append_left _ (List.mem_append_left _ (List.mem_append_left _ (List.mem_append_left _ (List.mem_append_left _ (List.mem_append_left _ (List.mem_append_right _ (List.mem_append_right _ (List.mem_append_right _ (List.mem_append_right _ (List.mem_append_right _ (List.mem_append_left _ ((show (Cond.codeWith yL_act cL_act 7 (some .int) [(0, 306, 307, 73), (0, 306, 312, 76), (0, 306, 317, 79)] : Cond) ∈ wsL_most_r6 from List.mem_of_getElem? (i := 15) rfl)))))))))))))))))))))))) (by decide +kernel)) (goodIn_r [Cond.classLink RL 73 "java/lang/IndexOutOfBoundsException", Cond.classLink RL 76 "java/lang/IllegalArgumentException", Cond.classLink RL 79 "java/lang/IllegalStateException", Cond.methodLink RL 7 yX11_input, Cond.instanceMethod yX11_input, Cond.selects RX11 yX11_input yX11_input, Cond.code yX11_input cX11_input 3 (some .int), Cond.classLink RX11 103 "java/lang/IllegalStateException", Cond.initialized "java/lang/IllegalStateException", Cond.methodLink RX11 95 yX3_isFull, Cond.instanceMethod yX3_isFull, Cond.selects RX3 yX3_isFull yX3_isFull, Cond.code yX3_isFull cX3_isFull 1 (some .boolean), Cond.methodLink RX11 110 yX3_addInput, Cond.instanceMethod yX3_addInput, Cond.selects RX3 yX3_addInput yX3_addInput, Cond.code yX3_addInput cX3_addInput 1 (some .int), Cond.methodLink RX3 50 yX3_add, Cond.instanceMethod yX3_add, Cond.selects RX3 yX3_add yX3_add, Cond.code yX3_add cX3_add 5 (some .int), Cond.fieldLink RX3 26 "GateLedger$Net" "stuckBits" "LGateLedger$Row;"] [137, 138, 139, 142, 143, 144, 145, 146, 147, 154, 155, 156, 157, 164, 165, 166, 167, 168, 169, 170, 171, 126] (by decide +kernel) (by decide +kernel)))
set_option maxRecDepth 20000 in
theorem ggL_most_L_refuses_p9 : GoodIn wsL_most wsL_refuses_r8 := goodIn_r _ [172, 173, 174, 175, 176, 177, 178, 179, 180, 181, 182, 183, 184, 185, 186, 187, 188, 189, 190, 191, 192, 193, 194, 200] (by decide +kernel) (by decide +kernel)
set_option maxRecDepth 20000 in
theorem ggL_most_L_refuses_p10 : GoodIn wsL_most wsL_refuses_r9 := goodIn_r _ [201, 202, 203, 204, 205, 206, 207, 23, 213, 214, 215, 220, 221, 222, 22, 223, 224, 225, 226, 227, 228, 229, 230, 231] (by decide +kernel) (by decide +kernel)
set_option maxRecDepth 20000 in
theorem ggL_most_L_refuses_p11 : GoodIn wsL_most wsL_refuses_r10 := goodIn_r _ [232, 233, 234, 235, 236, 237, 238, 239, 240, 241, 242, 243, 244, 65, 66, 68, 245, 246, 247, 248, 249, 67, 69, 250] (by decide +kernel) (by decide +kernel)
set_option maxRecDepth 20000 in
theorem ggL_most_L_refuses_p12 : GoodIn wsL_most wsL_refuses_r11 := goodIn_r _ [251, 252, 253, 258, 259, 260, 261, 262, 263, 264, 265, 266, 267, 268, 269, 70, 71, 270, 271, 272, 273, 274, 275, 276] (by decide +kernel) (by decide +kernel)
set_option maxRecDepth 20000 in
theorem ggL_most_L_refuses_p13 : GoodIn wsL_most wsL_refuses_r12 := goodIn_r _ [277, 278, 279, 280, 281, 282, 283, 284, 285, 286, 287, 288, 289, 290, 129, 292, 293, 294, 295, 296, 297, 298, 299, 301] (by decide +kernel) (by decide +kernel)
set_option maxRecDepth 20000 in
theorem ggL_most_L_refuses_p14 : GoodIn wsL_most wsL_refuses_r13 := goodIn_r _ [302, 303, 304, 305, 306, 307, 308, 309, 35, 310, 311, 312, 34, 313, 314, 315, 316, 317, 93, 94, 318, 319, 323, 324] (by decide +kernel) (by decide +kernel)
set_option maxRecDepth 20000 in
theorem ggL_most_L_refuses_p15 : GoodIn wsL_most wsL_refuses_r14 := goodIn_r _ [325, 326, 327, 328, 329, 330, 331, 335, 339, 340, 341, 92, 342, 100, 343, 347, 348, 349, 350, 351, 352, 353, 354, 355] (by decide +kernel) (by decide +kernel)
set_option maxRecDepth 20000 in
theorem ggL_most_L_refuses_p16 : GoodIn wsL_most wsL_refuses_r15 := goodIn_r _ [356, 360, 361, 362, 363, 364, 365, 366, 367, 368, 369, 370, 371, 372, 373, 374, 375, 376, 377, 378, 379, 380, 78, 395] (by decide +kernel) (by decide +kernel)
set_option maxRecDepth 20000 in
theorem ggL_most_L_refuses_p17 : GoodIn wsL_most wsL_refuses_r16 := goodIn_r _ [396, 397, 398, 399, 453, 454, 455, 456, 457, 458, 459, 460, 461, 462, 463, 464, 465, 466, 467, 468, 469, 470, 471, 472] (by decide +kernel) (by decide +kernel)
set_option maxRecDepth 20000 in
theorem ggL_most_L_refuses_p18 : GoodIn wsL_most wsL_refuses_r17 := goodIn_r _ [473, 44, 36, 40, 474, 475, 476, 477, 478, 479, 480, 481, 482, 483, 39, 484, 485, 486, 487, 488, 489, 490, 491, 492] (by decide +kernel) (by decide +kernel)
set_option maxRecDepth 20000 in
theorem ggL_most_L_refuses_p19 : GoodIn wsL_most wsL_refuses_r18 := goodIn_r _ [493, 494, 43, 495, 496, 497, 498, 499, 500, 501, 502, 503, 504, 505, 506, 507, 508, 509, 510, 108, 511, 512, 513, 514] (by decide +kernel) (by decide +kernel)
set_option maxRecDepth 20000 in
theorem ggL_most_L_refuses_p20 : GoodIn wsL_most wsL_refuses_r19 := goodIn_r _ [515, 516, 517, 518, 519, 520, 521, 522, 523, 524, 525, 526, 527, 528, 529, 530, 531, 532, 533, 534, 535, 536, 537, 538] (by decide +kernel) (by decide +kernel)
set_option maxRecDepth 20000 in
theorem ggL_most_L_refuses_p21 : GoodIn wsL_most wsL_refuses_r20 := goodIn_r _ [539, 540, 541, 542, 543, 544, 545, 546, 547, 548, 549, 550, 551, 552, 553, 554, 555, 48, 556, 557, 558, 47, 559, 114] (by decide +kernel) (by decide +kernel)
set_option maxRecDepth 20000 in
theorem ggL_most_L_refuses_p22 : GoodIn wsL_most wsL_refuses_r21 := goodIn_r _ [560, 561, 562, 563, 564, 565, 566, 567, 568, 569, 570, 571, 572, 573, 574, 575, 576, 577, 578, 579, 580, 581, 582, 583] (by decide +kernel) (by decide +kernel)
set_option maxRecDepth 20000 in
theorem ggL_most_L_refuses_p23 : GoodIn wsL_most wsL_refuses_r22 := goodIn_r _ [584, 585, 586, 587, 588, 589, 52, 590, 591, 592, 593, 594, 595, 51, 596, 597, 598, 599, 600, 601, 602, 603, 604, 605] (by decide +kernel) (by decide +kernel)
set_option maxRecDepth 20000 in
theorem ggL_most_L_refuses_p24 : GoodIn wsL_most wsL_refuses_r23 := goodIn_r _ [606, 607, 608, 609, 610, 611, 612, 613, 614, 615, 616, 617, 618, 619, 620, 621, 622, 623, 624, 625, 626, 627, 628, 629] (by decide +kernel) (by decide +kernel)
set_option maxRecDepth 20000 in
theorem ggL_most_L_refuses_p25 : GoodIn wsL_most wsL_refuses_r24 := goodIn_r _ [630, 631, 632, 633, 634, 635, 636, 637, 638, 639, 640, 641, 642, 643, 644, 645, 646, 647, 648, 649, 650] (by decide +kernel) (by decide +kernel)
set_option maxRecDepth 20000 in
theorem ggL_most_L_refuses_p26 : GoodIn wsL_most wsX110 := goodIn_r _ [667, 668, 669, 670, 671, 672, 673, 674, 675, 676, 677, 678] (by decide +kernel) (by decide +kernel)
set_option maxRecDepth 20000 in
theorem ggL_most_L_refuses_p27 : GoodIn wsL_most wsX30 := goodIn_r _ [708, 709, 710, 711, 712, 713, 714, 715] (by decide +kernel) (by decide +kernel)
set_option maxRecDepth 20000 in
theorem ggL_most_L_refuses_p28 : GoodIn wsL_most wsX40 := goodIn_r _ [679] (by decide +kernel) (by decide +kernel)
set_option maxRecDepth 20000 in
theorem ggL_most_L_refuses_p29 : GoodIn wsL_most wsX70 := goodIn_r _ [693, 694] (by decide +kernel) (by decide +kernel)
set_option maxRecDepth 20000 in
theorem ggL_most_L_refuses_p30 : GoodIn wsL_most wsX100 := goodIn_r _ [690, 691, 692] (by decide +kernel) (by decide +kernel)
set_option maxRecDepth 20000 in
theorem ggL_most_L_refuses_p31 : GoodIn wsL_most wsX20 := goodIn_r _ [680, 681, 682, 683, 684, 685, 686, 687, 688, 689] (by decide +kernel) (by decide +kernel)
set_option maxRecDepth 20000 in
theorem ggL_most_L_refuses_p32 : GoodIn wsL_most wsX10 := goodIn_r _ [695, 696] (by decide +kernel) (by decide +kernel)
set_option maxRecDepth 20000 in
theorem ggL_most_L_refuses_p33 : GoodIn wsL_most wsX90 := goodIn_r _ [716] (by decide +kernel) (by decide +kernel)
set_option maxRecDepth 20000 in
theorem ggL_most_L_refuses_p34 : GoodIn wsL_most wsX50 := goodIn_r _ [697, 698, 699] (by decide +kernel) (by decide +kernel)
set_option maxRecDepth 20000 in
theorem ggL_most_L_refuses_p35 : GoodIn wsL_most wsX80 := goodIn_r _ [700, 701] (by decide +kernel) (by decide +kernel)
set_option maxRecDepth 20000 in
theorem ggL_most_L_refuses_p36 : GoodIn wsL_most wsX60 := goodIn_r _ [702] (by decide +kernel) (by decide +kernel)
set_option maxRecDepth 20000 in
theorem ggL_most_L_refuses_p37 : GoodIn wsL_most wsX00 := goodIn_r _ [703, 704, 705, 706, 707] (by decide +kernel) (by decide +kernel)
set_option maxRecDepth 20000 in
theorem ggL_most_L_refuses : GoodIn wsL_most wsL_refuses := goodIn_ca (goodIn_ca (goodIn_ca (gI_cons ggL_most_L_refuses_p1 (goodIn_app (goodIn_app (goodIn_app (goodIn_app (goodIn_app (goodIn_app (goodIn_app (goodIn_app (goodIn_app (goodIn_app (goodIn_app (goodIn_app (goodIn_app ggL_most_L_refuses_p2 (goodIn_app ggL_most_L_refuses_p3 (goodIn_app ggL_most_L_refuses_p4 (goodIn_app ggL_most_L_refuses_p5 (goodIn_app ggL_most_L_refuses_p6 (goodIn_app ggL_most_L_refuses_p7 (goodIn_app ggL_most_L_refuses_p8 (goodIn_app ggL_most_L_refuses_p9 (goodIn_app ggL_most_L_refuses_p10 (goodIn_app ggL_most_L_refuses_p11 (goodIn_app ggL_most_L_refuses_p12 (goodIn_app ggL_most_L_refuses_p13 (goodIn_app ggL_most_L_refuses_p14 (goodIn_app ggL_most_L_refuses_p15 (goodIn_app ggL_most_L_refuses_p16 (goodIn_app ggL_most_L_refuses_p17 (goodIn_app ggL_most_L_refuses_p18 (goodIn_app ggL_most_L_refuses_p19 (goodIn_app ggL_most_L_refuses_p20 (goodIn_app ggL_most_L_refuses_p21 (goodIn_app ggL_most_L_refuses_p22 (goodIn_app ggL_most_L_refuses_p23 (goodIn_app ggL_most_L_refuses_p24 ggL_most_L_refuses_p25))))))))))))))))))))))) ggL_most_L_refuses_p26) ggL_most_L_refuses_p27) ggL_most_L_refuses_p28) ggL_most_L_refuses_p29) ggL_most_L_refuses_p30) ggL_most_L_refuses_p31) ggL_most_L_refuses_p32) ggL_most_L_refuses_p33) ggL_most_L_refuses_p34) ggL_most_L_refuses_p35) ggL_most_L_refuses_p36) ggL_most_L_refuses_p37)) (goodIn_sub (fun _ h => List.mem_cons_of_mem _ (List.mem_append_left _ (List.mem_append_right _ h))) (by decide +kernel))) (goodIn_sub (fun _ h => List.mem_cons_of_mem _ (List.mem_append_right _ h)) (by decide +kernel))) (goodIn_sub (fun _ h => List.mem_cons_of_mem _ (List.mem_append_left _ (List.mem_append_left _ (List.mem_append_right _ h)))) (by decide +kernel))

set_option maxRecDepth 20000 in
theorem ggL_law_L_refuses_p1 : GoodIn wsL_law [.code yL_refuses cL_refuses 12 (some .boolean)] := gI_one (List.mem_append_left _ (List.mem_append_left _ (List.mem_append_left _ (List.mem_append_left _ (List.mem_append_left _ (List.mem_append_left _ (List.mem_append_left _ (List.mem_append_left _ (List.mem_append_left _ (List.mem_append_left _ (List.mem_append_left _ (List.mem_append_left _ (List.mem_append_left _ (List.mem_append_left _ (List.mem_append_left _ (List.mem_append_left _ (List.mem_append_right _ (List.mem_append_right _ (List.mem_append_right _ (List.mem_append_right _ (List.mem_append_right _ (List.mem_append_left _ ((show (.code yL_refuses cL_refuses 12 (some .boolean) : Cond) ∈ wsL_law0_r6 from List.mem_of_getElem? (i := 18) rfl)))))))))))))))))))))))) (by decide +kernel)
set_option maxRecDepth 20000 in
theorem ggL_law_L_refuses_p2 : GoodIn wsL_law wsL_refuses_r1 := goodIn_r _ [139, 140, 141, 142, 143, 144, 3, 145, 146, 147, 2, 148, 34, 21, 30, 149, 150, 151, 152, 153, 154, 17, 155, 156] (by decide +kernel) (by decide +kernel)
set_option maxRecDepth 20000 in
theorem ggL_law_L_refuses_p3 : GoodIn wsL_law wsL_refuses_r2 := goodIn_r _ [157, 158, 159, 160, 161, 162, 57, 163, 164, 165, 166, 167, 168, 169, 170, 171, 172, 173, 174, 175, 176, 177, 178, 22] (by decide +kernel) (by decide +kernel)
set_option maxRecDepth 20000 in
theorem ggL_law_L_refuses_p4 : GoodIn wsL_law wsL_refuses_r3 := goodIn_r _ [179, 180, 181, 182, 126, 183, 184, 185, 20, 186, 63, 187, 188, 189, 190, 191, 192, 193, 194, 33, 195, 196, 88, 197] (by decide +kernel) (by decide +kernel)
set_option maxRecDepth 20000 in
theorem ggL_law_L_refuses_p5 : GoodIn wsL_law wsL_refuses_r4 := goodIn_r _ [198, 199, 200, 201, 202, 203, 204, 205, 206, 127, 207, 208, 209, 210, 211, 128, 212, 213, 133, 134, 135, 214, 215, 216] (by decide +kernel) (by decide +kernel)
set_option maxRecDepth 20000 in
theorem ggL_law_L_refuses_p6 : GoodIn wsL_law wsL_refuses_r5 := goodIn_r _ [217, 218, 219, 220, 221, 222, 223, 224, 225, 226, 130, 227, 228, 229, 29, 230, 82, 231, 232, 233, 234, 235, 236, 237] (by decide +kernel) (by decide +kernel)
set_option maxRecDepth 20000 in
theorem ggL_law_L_refuses_p7 : GoodIn wsL_law wsL_refuses_r6 := goodIn_r _ [238, 239, 240, 241, 242, 243, 244, 245, 246, 247, 248, 249, 250, 251, 252, 253, 80, 254, 255, 256, 257, 258, 259, 260] (by decide +kernel) (by decide +kernel)
set_option maxRecDepth 20000 in
theorem ggL_law_L_refuses_p8 : GoodIn wsL_law wsL_refuses_r7 := goodIn_app (goodIn_r [Cond.initialized RL] [6] (by decide +kernel) (by decide +kernel)) (gI_cons (c := Cond.codeWith yL_act cL_act 7 (some .int) [(0, 306, 307, 73), (0, 306, 312, 76), (0, 306, 317, 79)]) (gI_one (List.mem_append_left _ (List.mem_append_left _ (List.mem_append_left _ (List.mem_append_left _ (List.mem_append_left _ (List.mem_append_left _ (List.mem_append_left _ (List.mem_append_left _ (List.mem_append_left _ (List.mem_append_left _ (List.mem_append_left _ (List.mem_append_left _ (List.mem_append_left _ (List.mem_append_left _ (List.mem_append_left _ (List.mem_append_left _ (List.mem_append_right _ (List.mem_append_right _ (List.mem_append_right _ (List.mem_append_right _ (List.mem_append_right _ (List.mem_append_right _ (List.mem_append_right _ (List.mem_append_right _ (List.mem_append_right _ (List.mem_append_right _ (List.mem_append_left _ ((show (Cond.codeWith yL_act cL_act 7 (some .int) [(0, 306, 307, 73), (0, 306, 312, 76), (0, 306, 317, 79)] : Cond) ∈ wsL_law0_r11 from List.mem_of_getElem? (i := 21) rfl))))))))))))))))))))))))))))) (by decide +kernel)) (goodIn_r [Cond.classLink RL 73 "java/lang/IndexOutOfBoundsException", Cond.classLink RL 76 "java/lang/IllegalArgumentException", Cond.classLink RL 79 "java/lang/IllegalStateException", Cond.methodLink RL 7 yX11_input, Cond.instanceMethod yX11_input, Cond.selects RX11 yX11_input yX11_input, Cond.code yX11_input cX11_input 3 (some .int), Cond.classLink RX11 103 "java/lang/IllegalStateException", Cond.initialized "java/lang/IllegalStateException", Cond.methodLink RX11 95 yX3_isFull, Cond.instanceMethod yX3_isFull, Cond.selects RX3 yX3_isFull yX3_isFull, Cond.code yX3_isFull cX3_isFull 1 (some .boolean), Cond.methodLink RX11 110 yX3_addInput, Cond.instanceMethod yX3_addInput, Cond.selects RX3 yX3_addInput yX3_addInput, Cond.code yX3_addInput cX3_addInput 1 (some .int), Cond.methodLink RX3 50 yX3_add, Cond.instanceMethod yX3_add, Cond.selects RX3 yX3_add yX3_add, Cond.code yX3_add cX3_add 5 (some .int), Cond.fieldLink RX3 26 "GateLedger$Net" "stuckBits" "LGateLedger$Row;"] [262, 263, 264, 265, 266, 267, 268, 269, 270, 271, 272, 273, 274, 275, 276, 277, 278, 279, 280, 281, 282, 129] (by decide +kernel) (by decide +kernel)))
set_option maxRecDepth 20000 in
theorem ggL_law_L_refuses_p9 : GoodIn wsL_law wsL_refuses_r8 := goodIn_r _ [283, 284, 285, 286, 287, 288, 289, 290, 291, 292, 293, 294, 295, 296, 297, 298, 299, 300, 301, 302, 303, 304, 305, 306] (by decide +kernel) (by decide +kernel)
set_option maxRecDepth 20000 in
theorem ggL_law_L_refuses_p10 : GoodIn wsL_law wsL_refuses_r9 := goodIn_r _ [307, 308, 309, 310, 311, 312, 313, 26, 314, 315, 316, 317, 318, 319, 25, 320, 321, 322, 323, 324, 325, 326, 327, 328] (by decide +kernel) (by decide +kernel)
set_option maxRecDepth 20000 in
theorem ggL_law_L_refuses_p11 : GoodIn wsL_law wsL_refuses_r10 := goodIn_r _ [329, 330, 331, 332, 333, 334, 335, 336, 337, 338, 339, 340, 341, 68, 69, 71, 342, 343, 344, 345, 346, 70, 72, 347] (by decide +kernel) (by decide +kernel)
set_option maxRecDepth 20000 in
theorem ggL_law_L_refuses_p12 : GoodIn wsL_law wsL_refuses_r11 := goodIn_r _ [348, 349, 350, 351, 352, 353, 354, 355, 356, 357, 358, 359, 360, 361, 362, 73, 74, 363, 364, 365, 366, 367, 368, 369] (by decide +kernel) (by decide +kernel)
set_option maxRecDepth 20000 in
theorem ggL_law_L_refuses_p13 : GoodIn wsL_law wsL_refuses_r12 := goodIn_r _ [370, 371, 372, 373, 374, 375, 376, 377, 378, 379, 380, 381, 382, 383, 132, 384, 385, 386, 387, 388, 389, 390, 391, 392] (by decide +kernel) (by decide +kernel)
set_option maxRecDepth 20000 in
theorem ggL_law_L_refuses_p14 : GoodIn wsL_law wsL_refuses_r13 := goodIn_r _ [393, 394, 395, 396, 397, 398, 399, 400, 38, 401, 402, 403, 37, 404, 405, 406, 407, 408, 96, 97, 409, 410, 411, 412] (by decide +kernel) (by decide +kernel)
set_option maxRecDepth 20000 in
theorem ggL_law_L_refuses_p15 : GoodIn wsL_law wsL_refuses_r14 := goodIn_r _ [413, 414, 415, 416, 417, 418, 419, 420, 421, 422, 423, 95, 424, 103, 425, 426, 427, 428, 429, 430, 431, 432, 433, 434] (by decide +kernel) (by decide +kernel)
set_option maxRecDepth 20000 in
theorem ggL_law_L_refuses_p16 : GoodIn wsL_law wsL_refuses_r15 := goodIn_r _ [435, 436, 437, 438, 439, 440, 441, 442, 443, 444, 445, 446, 447, 448, 449, 450, 451, 452, 453, 454, 455, 456, 81, 457] (by decide +kernel) (by decide +kernel)
set_option maxRecDepth 20000 in
theorem ggL_law_L_refuses_p17 : GoodIn wsL_law wsL_refuses_r16 := goodIn_r _ [458, 459, 460, 461, 462, 463, 464, 465, 466, 467, 468, 469, 470, 471, 472, 473, 474, 475, 476, 477, 478, 479, 480, 481] (by decide +kernel) (by decide +kernel)
set_option maxRecDepth 20000 in
theorem ggL_law_L_refuses_p18 : GoodIn wsL_law wsL_refuses_r17 := goodIn_r _ [482, 47, 39, 43, 483, 484, 485, 486, 487, 488, 489, 490, 491, 492, 42, 493, 494, 495, 496, 497, 498, 499, 500, 501] (by decide +kernel) (by decide +kernel)
set_option maxRecDepth 20000 in
theorem ggL_law_L_refuses_p19 : GoodIn wsL_law wsL_refuses_r18 := goodIn_r _ [502, 503, 46, 504, 505, 506, 507, 508, 509, 510, 511, 512, 513, 514, 515, 516, 517, 518, 519, 111, 520, 521, 522, 523] (by decide +kernel) (by decide +kernel)
set_option maxRecDepth 20000 in
theorem ggL_law_L_refuses_p20 : GoodIn wsL_law wsL_refuses_r19 := goodIn_r _ [524, 525, 526, 527, 528, 529, 530, 531, 532, 533, 534, 535, 536, 537, 538, 539, 540, 541, 542, 543, 544, 545, 546, 547] (by decide +kernel) (by decide +kernel)
set_option maxRecDepth 20000 in
theorem ggL_law_L_refuses_p21 : GoodIn wsL_law wsL_refuses_r20 := goodIn_r _ [548, 549, 550, 551, 552, 553, 554, 555, 556, 557, 558, 559, 560, 561, 562, 563, 564, 51, 565, 566, 567, 50, 568, 117] (by decide +kernel) (by decide +kernel)
set_option maxRecDepth 20000 in
theorem ggL_law_L_refuses_p22 : GoodIn wsL_law wsL_refuses_r21 := goodIn_r _ [569, 570, 571, 572, 573, 574, 575, 576, 577, 578, 579, 580, 581, 582, 583, 584, 585, 586, 587, 588, 589, 590, 591, 592] (by decide +kernel) (by decide +kernel)
set_option maxRecDepth 20000 in
theorem ggL_law_L_refuses_p23 : GoodIn wsL_law wsL_refuses_r22 := goodIn_r _ [593, 594, 595, 596, 597, 598, 55, 599, 600, 601, 602, 603, 604, 54, 605, 606, 607, 608, 609, 610, 611, 612, 613, 614] (by decide +kernel) (by decide +kernel)
set_option maxRecDepth 20000 in
theorem ggL_law_L_refuses_p24 : GoodIn wsL_law wsL_refuses_r23 := goodIn_r _ [615, 616, 617, 618, 619, 620, 621, 622, 623, 624, 625, 626, 627, 628, 629, 630, 631, 632, 633, 634, 635, 636, 637, 638] (by decide +kernel) (by decide +kernel)
set_option maxRecDepth 20000 in
theorem ggL_law_L_refuses_p25 : GoodIn wsL_law wsL_refuses_r24 := goodIn_r _ [639, 640, 641, 642, 643, 644, 645, 646, 647, 648, 649, 650, 651, 652, 653, 654, 655, 656, 657, 658, 659] (by decide +kernel) (by decide +kernel)
set_option maxRecDepth 20000 in
theorem ggL_law_L_refuses_p26 : GoodIn wsL_law wsX110 := goodIn_r _ [690, 691, 692, 693, 694, 695, 696, 697, 698, 699, 700, 701] (by decide +kernel) (by decide +kernel)
set_option maxRecDepth 20000 in
theorem ggL_law_L_refuses_p27 : GoodIn wsL_law wsX30 := goodIn_r _ [731, 732, 733, 734, 735, 736, 737, 738] (by decide +kernel) (by decide +kernel)
set_option maxRecDepth 20000 in
theorem ggL_law_L_refuses_p28 : GoodIn wsL_law wsX40 := goodIn_r _ [702] (by decide +kernel) (by decide +kernel)
set_option maxRecDepth 20000 in
theorem ggL_law_L_refuses_p29 : GoodIn wsL_law wsX70 := goodIn_r _ [716, 717] (by decide +kernel) (by decide +kernel)
set_option maxRecDepth 20000 in
theorem ggL_law_L_refuses_p30 : GoodIn wsL_law wsX100 := goodIn_r _ [713, 714, 715] (by decide +kernel) (by decide +kernel)
set_option maxRecDepth 20000 in
theorem ggL_law_L_refuses_p31 : GoodIn wsL_law wsX20 := goodIn_r _ [703, 704, 705, 706, 707, 708, 709, 710, 711, 712] (by decide +kernel) (by decide +kernel)
set_option maxRecDepth 20000 in
theorem ggL_law_L_refuses_p32 : GoodIn wsL_law wsX10 := goodIn_r _ [718, 719] (by decide +kernel) (by decide +kernel)
set_option maxRecDepth 20000 in
theorem ggL_law_L_refuses_p33 : GoodIn wsL_law wsX90 := goodIn_r _ [739] (by decide +kernel) (by decide +kernel)
set_option maxRecDepth 20000 in
theorem ggL_law_L_refuses_p34 : GoodIn wsL_law wsX50 := goodIn_r _ [720, 721, 722] (by decide +kernel) (by decide +kernel)
set_option maxRecDepth 20000 in
theorem ggL_law_L_refuses_p35 : GoodIn wsL_law wsX80 := goodIn_r _ [723, 724] (by decide +kernel) (by decide +kernel)
set_option maxRecDepth 20000 in
theorem ggL_law_L_refuses_p36 : GoodIn wsL_law wsX60 := goodIn_r _ [725] (by decide +kernel) (by decide +kernel)
set_option maxRecDepth 20000 in
theorem ggL_law_L_refuses_p37 : GoodIn wsL_law wsX00 := goodIn_r _ [726, 727, 728, 729, 730] (by decide +kernel) (by decide +kernel)
set_option maxRecDepth 20000 in
theorem ggL_law_L_refuses : GoodIn wsL_law wsL_refuses := goodIn_ca (goodIn_ca (goodIn_ca (gI_cons ggL_law_L_refuses_p1 (goodIn_app (goodIn_app (goodIn_app (goodIn_app (goodIn_app (goodIn_app (goodIn_app (goodIn_app (goodIn_app (goodIn_app (goodIn_app (goodIn_app (goodIn_app ggL_law_L_refuses_p2 (goodIn_app ggL_law_L_refuses_p3 (goodIn_app ggL_law_L_refuses_p4 (goodIn_app ggL_law_L_refuses_p5 (goodIn_app ggL_law_L_refuses_p6 (goodIn_app ggL_law_L_refuses_p7 (goodIn_app ggL_law_L_refuses_p8 (goodIn_app ggL_law_L_refuses_p9 (goodIn_app ggL_law_L_refuses_p10 (goodIn_app ggL_law_L_refuses_p11 (goodIn_app ggL_law_L_refuses_p12 (goodIn_app ggL_law_L_refuses_p13 (goodIn_app ggL_law_L_refuses_p14 (goodIn_app ggL_law_L_refuses_p15 (goodIn_app ggL_law_L_refuses_p16 (goodIn_app ggL_law_L_refuses_p17 (goodIn_app ggL_law_L_refuses_p18 (goodIn_app ggL_law_L_refuses_p19 (goodIn_app ggL_law_L_refuses_p20 (goodIn_app ggL_law_L_refuses_p21 (goodIn_app ggL_law_L_refuses_p22 (goodIn_app ggL_law_L_refuses_p23 (goodIn_app ggL_law_L_refuses_p24 ggL_law_L_refuses_p25))))))))))))))))))))))) ggL_law_L_refuses_p26) ggL_law_L_refuses_p27) ggL_law_L_refuses_p28) ggL_law_L_refuses_p29) ggL_law_L_refuses_p30) ggL_law_L_refuses_p31) ggL_law_L_refuses_p32) ggL_law_L_refuses_p33) ggL_law_L_refuses_p34) ggL_law_L_refuses_p35) ggL_law_L_refuses_p36) ggL_law_L_refuses_p37)) (goodIn_sub (fun _ h => List.mem_append_left _ (List.mem_append_left _ (List.mem_append_right _ h))) (by decide +kernel))) (goodIn_sub (fun _ h => List.mem_append_left _ (List.mem_append_right _ h)) (by decide +kernel))) (goodIn_sub (fun _ h => List.mem_append_right _ h) (by decide +kernel))

set_option maxRecDepth 20000 in
theorem ggL_adders_L_multipliers_p1 : GoodIn wsL_adders [.code yL_multipliers cL_multipliers 1 (some .boolean)] := gI_one (List.mem_cons_of_mem _ (List.mem_append_left _ (List.mem_append_left _ (List.mem_append_left _ (List.mem_append_left _ (List.mem_append_left _ (List.mem_append_left _ (List.mem_append_left _ (List.mem_append_left _ (List.mem_append_left _ (List.mem_append_left _ (List.mem_append_left _ (List.mem_append_left _ (List.mem_append_left _ (List.mem_append_left _ (List.mem_append_left _ (List.mem_append_right _ (List.mem_append_right _ (List.mem_append_right _ (List.mem_append_right _ (List.mem_append_right _ (List.mem_append_right _ (List.mem_append_right _ (List.mem_append_right _ (List.mem_append_right _ (List.mem_append_right _ (List.mem_append_right _ (List.mem_append_right _ (List.mem_append_right _ (List.mem_append_right _ (List.mem_append_right _ (List.mem_append_right _ (List.mem_append_right _ (List.mem_append_right _ (List.mem_append_right _ (List.mem_append_right _ (List.mem_append_right _ (List.mem_append_right _ (List.mem_append_right _ (List.mem_append_right _ (List.mem_append_right _ (List.mem_append_right _ (List.mem_append_right _ (List.mem_append_right _ ((show (.code yL_multipliers cL_multipliers 1 (some .boolean) : Cond) ∈ wsL_adders_r29 from List.mem_of_getElem? (i := 2) rfl)))))))))))))))))))))))))))))))))))))))))))))) (by decide +kernel)
set_option maxRecDepth 20000 in
theorem ggL_adders_L_multipliers_p2 : GoodIn wsL_adders wsL_multipliers_r1 := goodIn_r _ [370, 371, 372, 3, 373, 147, 148, 149, 150, 151, 152, 14, 158, 159, 160, 54, 161, 162, 374, 375, 376, 377, 167, 172] (by decide +kernel) (by decide +kernel)
set_option maxRecDepth 20000 in
theorem ggL_adders_L_multipliers_p3 : GoodIn wsL_adders wsL_multipliers_r2 := goodIn_r _ [353, 354, 355, 356, 23, 153, 154, 155, 156, 157, 312, 313, 314, 267, 268, 357, 358, 359, 22, 360, 70, 71, 361, 321] (by decide +kernel) (by decide +kernel)
set_option maxRecDepth 20000 in
theorem ggL_adders_L_multipliers_p4 : GoodIn wsL_adders wsL_multipliers_r3 := goodIn_r _ [322, 323, 324, 325, 274, 275, 276, 277, 278, 279, 280, 123, 124, 125, 126, 281, 130, 131, 17, 132, 60, 330, 297, 298] (by decide +kernel) (by decide +kernel)
set_option maxRecDepth 20000 in
theorem ggL_adders_L_multipliers_p5 : GoodIn wsL_adders wsL_multipliers_r4 := goodIn_r _ [299, 340, 352, 182, 183, 184, 362, 363, 364, 365, 331, 305, 306, 307, 127, 366, 367, 368, 369, 320, 319, 326, 327, 328] (by decide +kernel) (by decide +kernel)
set_option maxRecDepth 20000 in
theorem ggL_adders_L_multipliers_p6 : GoodIn wsL_adders wsL_multipliers_r5 := goodIn_r _ [329, 332, 333, 334, 335, 658, 659, 135, 660, 143, 144, 145, 146, 31, 18, 27, 163, 164, 165, 166, 168, 169, 170, 171] (by decide +kernel) (by decide +kernel)
set_option maxRecDepth 20000 in
theorem ggL_adders_L_multipliers_p7 : GoodIn wsL_adders wsL_multipliers_r6 := goodIn_r _ [173, 174, 175, 176, 19, 177, 178, 179, 180, 181, 185, 186, 187, 188, 189, 190, 191, 192, 30, 193, 194, 85, 195, 196] (by decide +kernel) (by decide +kernel)
set_option maxRecDepth 20000 in
theorem ggL_adders_L_multipliers_p8 : GoodIn wsL_adders wsL_multipliers_r7 := goodIn_r _ [197, 198, 199, 200, 201, 202, 203, 204, 205, 206, 207, 208, 209, 210, 211, 212, 213, 214, 215, 216, 217, 218, 219, 220] (by decide +kernel) (by decide +kernel)
set_option maxRecDepth 20000 in
theorem ggL_adders_L_multipliers_p9 : GoodIn wsL_adders wsL_multipliers_r8 := goodIn_r _ [221, 222, 223, 224, 225, 226, 227, 26, 228, 79, 229, 230, 231, 232, 233, 234, 235, 236, 237, 238, 239, 240, 241, 242] (by decide +kernel) (by decide +kernel)
set_option maxRecDepth 20000 in
theorem ggL_adders_L_multipliers_p10 : GoodIn wsL_adders wsL_multipliers_r9 := goodIn_r _ [243, 244, 245, 246, 247, 248, 249, 250, 251, 77, 252, 253, 254, 255, 256, 661, 662, 663, 438, 439, 440, 441, 398, 35] (by decide +kernel) (by decide +kernel)
set_option maxRecDepth 20000 in
theorem ggL_adders_L_multipliers_p11 : GoodIn wsL_adders wsL_multipliers_r10 := goodIn_r _ [399, 400, 401, 34, 402, 403, 404, 405, 406, 93, 94, 407, 408, 409, 410, 411, 412, 413, 414, 415, 416, 417, 418, 419] (by decide +kernel) (by decide +kernel)
set_option maxRecDepth 20000 in
theorem ggL_adders_L_multipliers_p12 : GoodIn wsL_adders wsL_multipliers_r11 := goodIn_r _ [420, 421, 92, 422, 100, 423, 424, 425, 426, 427, 387, 388, 389, 428, 429, 430, 431, 432, 433, 442, 443, 444, 445, 446] (by decide +kernel) (by decide +kernel)
set_option maxRecDepth 20000 in
theorem ggL_adders_L_multipliers_p13 : GoodIn wsL_adders wsL_multipliers_r12 := goodIn_r _ [447, 448, 449, 450, 451, 452, 453, 454, 78, 455, 456, 457, 458, 459, 664, 665, 666, 137, 468, 469, 470, 471, 472, 473] (by decide +kernel) (by decide +kernel)
set_option maxRecDepth 20000 in
theorem ggL_adders_L_multipliers_p14 : GoodIn wsL_adders wsL_multipliers_r13 := goodIn_r _ [474, 475, 476, 460, 461, 462, 463, 289, 290, 291, 292, 293, 294, 295, 464, 465, 466, 467, 670, 671, 672, 593, 594, 595] (by decide +kernel) (by decide +kernel)
set_option maxRecDepth 20000 in
theorem ggL_adders_L_multipliers_p15 : GoodIn wsL_adders wsL_multipliers_r14 := goodIn_r _ [596, 52, 597, 598, 599, 600, 601, 602, 51, 603, 604, 504, 505, 605, 606, 607, 608, 609, 610, 611, 612, 613, 614, 615] (by decide +kernel) (by decide +kernel)
set_option maxRecDepth 20000 in
theorem ggL_adders_L_multipliers_p16 : GoodIn wsL_adders wsL_multipliers_r15 := goodIn_r _ [616, 617, 618, 619, 620, 621, 622, 623, 624, 625, 626, 627, 628, 629, 630, 631, 632, 633, 634, 643, 644, 645, 646, 36] (by decide +kernel) (by decide +kernel)
set_option maxRecDepth 20000 in
theorem ggL_adders_L_multipliers_p17 : GoodIn wsL_adders wsL_multipliers_r16 := goodIn_r _ [647, 648, 649, 650, 651, 652, 635, 636, 637, 638, 639, 640, 641, 642] (by decide +kernel) (by decide +kernel)
set_option maxRecDepth 20000 in
theorem ggL_adders_L_multipliers_p18 : GoodIn wsL_adders wsX110 := goodIn_r _ [688, 689, 690, 691, 692, 693, 694, 695, 696, 697, 698, 699] (by decide +kernel) (by decide +kernel)
set_option maxRecDepth 20000 in
theorem ggL_adders_L_multipliers_p19 : GoodIn wsL_adders wsX30 := goodIn_r _ [729, 730, 731, 732, 733, 734, 735, 736] (by decide +kernel) (by decide +kernel)
set_option maxRecDepth 20000 in
theorem ggL_adders_L_multipliers_p20 : GoodIn wsL_adders wsX20 := goodIn_r _ [701, 702, 703, 704, 705, 706, 707, 708, 709, 710] (by decide +kernel) (by decide +kernel)
set_option maxRecDepth 20000 in
theorem ggL_adders_L_multipliers_p21 : GoodIn wsL_adders wsX40 := goodIn_r _ [700] (by decide +kernel) (by decide +kernel)
set_option maxRecDepth 20000 in
theorem ggL_adders_L_multipliers_p22 : GoodIn wsL_adders wsX70 := goodIn_r _ [714, 715] (by decide +kernel) (by decide +kernel)
set_option maxRecDepth 20000 in
theorem ggL_adders_L_multipliers_p23 : GoodIn wsL_adders wsX100 := goodIn_r _ [711, 712, 713] (by decide +kernel) (by decide +kernel)
set_option maxRecDepth 20000 in
theorem ggL_adders_L_multipliers_p24 : GoodIn wsL_adders wsX10 := goodIn_r _ [716, 717] (by decide +kernel) (by decide +kernel)
set_option maxRecDepth 20000 in
theorem ggL_adders_L_multipliers_p25 : GoodIn wsL_adders wsX90 := goodIn_r _ [737] (by decide +kernel) (by decide +kernel)
set_option maxRecDepth 20000 in
theorem ggL_adders_L_multipliers_p26 : GoodIn wsL_adders wsX00 := goodIn_r _ [724, 725, 726, 727, 728] (by decide +kernel) (by decide +kernel)
set_option maxRecDepth 20000 in
theorem ggL_adders_L_multipliers : GoodIn wsL_adders wsL_multipliers := goodIn_ca (goodIn_ca (goodIn_ca (gI_cons ggL_adders_L_multipliers_p1 (goodIn_app (goodIn_app (goodIn_app (goodIn_app (goodIn_app (goodIn_app (goodIn_app (goodIn_app (goodIn_app (goodIn_app ggL_adders_L_multipliers_p2 (goodIn_app ggL_adders_L_multipliers_p3 (goodIn_app ggL_adders_L_multipliers_p4 (goodIn_app ggL_adders_L_multipliers_p5 (goodIn_app ggL_adders_L_multipliers_p6 (goodIn_app ggL_adders_L_multipliers_p7 (goodIn_app ggL_adders_L_multipliers_p8 (goodIn_app ggL_adders_L_multipliers_p9 (goodIn_app ggL_adders_L_multipliers_p10 (goodIn_app ggL_adders_L_multipliers_p11 (goodIn_app ggL_adders_L_multipliers_p12 (goodIn_app ggL_adders_L_multipliers_p13 (goodIn_app ggL_adders_L_multipliers_p14 (goodIn_app ggL_adders_L_multipliers_p15 (goodIn_app ggL_adders_L_multipliers_p16 ggL_adders_L_multipliers_p17))))))))))))))) ggL_adders_L_multipliers_p18) ggL_adders_L_multipliers_p19) ggL_adders_L_multipliers_p20) ggL_adders_L_multipliers_p21) ggL_adders_L_multipliers_p22) ggL_adders_L_multipliers_p23) ggL_adders_L_multipliers_p24) ggL_adders_L_multipliers_p25) ggL_adders_L_multipliers_p26)) (goodIn_sub (fun _ h => List.mem_cons_of_mem _ (List.mem_append_left _ (List.mem_append_left _ (List.mem_append_right _ h)))) (by decide +kernel))) (goodIn_sub (fun _ h => List.mem_cons_of_mem _ (List.mem_append_left _ (List.mem_append_right _ h))) (by decide +kernel))) (goodIn_sub (fun _ h => List.mem_cons_of_mem _ (List.mem_append_right _ h)) (by decide +kernel))

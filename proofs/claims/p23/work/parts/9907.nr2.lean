set_option maxRecDepth 100000 in
theorem wsL0_in_15 : ∀ w ∈ wsL_law0_r15, w ∈ lw_tbl := inPx [13, 776, 777, 778, 779, 780, 781, 782, 784, 14, 785, 786, 787, 788, 789, 790, 791, 792, 793, 794, 795, 796, 797, 798] (by decide +kernel)
set_option maxRecDepth 100000 in
theorem wsL0_in_16 : ∀ w ∈ wsL_law0_r16, w ∈ lw_tbl := inPx [799, 800, 801, 78, 802, 804, 15, 805, 806, 808, 16, 809, 297, 298, 299, 300, 377, 378, 379, 380, 381, 382, 383, 384] (by decide +kernel)
set_option maxRecDepth 100000 in
theorem wsL0_in_17 : ∀ w ∈ wsL_law0_r17, w ∈ lw_tbl := inPx [412, 413, 414, 415, 424, 425, 426, 427, 429, 430, 431, 432, 810, 811, 812, 813, 438, 439, 440, 441, 442, 443, 445, 2] (by decide +kernel)
set_option maxRecDepth 100000 in
theorem wsL0_in_18 : ∀ w ∈ wsL_law0_r18, w ∈ lw_tbl := inPx [446, 447, 448, 452, 453, 454, 455, 457, 458, 459, 460, 461, 465, 469, 470, 471, 472, 473, 478, 479, 480, 481, 482, 483] (by decide +kernel)
set_option maxRecDepth 100000 in
theorem wsL0_in_19 : ∀ w ∈ wsL_law0_r19, w ∈ lw_tbl := inPx [484, 485, 486, 490, 814, 815, 816, 817, 434, 435, 436, 437, 494, 495, 496, 497, 498, 499, 500, 501, 503, 504, 505, 506] (by decide +kernel)
set_option maxRecDepth 100000 in
theorem wsL0_in_20 : ∀ w ∈ wsL_law0_r20, w ∈ lw_tbl := inPx [507, 522, 524, 4, 525, 526, 584, 585, 586, 587, 588, 589, 590, 591, 592, 593, 594, 595, 597, 598, 599, 600, 601, 602] (by decide +kernel)
set_option maxRecDepth 100000 in
theorem wsL0_in_21 : ∀ w ∈ wsL_law0_r21, w ∈ lw_tbl := inPx [603, 604, 605, 606, 607, 608, 609, 611, 6, 612, 613, 614, 615, 616, 165, 166, 167, 617, 618, 619, 620, 621, 622, 623] (by decide +kernel)
set_option maxRecDepth 100000 in
theorem wsL0_in_22 : ∀ w ∈ wsL_law0_r22, w ∈ lw_tbl := inPx [624, 625, 626, 627, 184, 628, 629, 630, 631, 632, 633, 634, 635, 637, 7, 638, 639, 640, 641, 642, 644, 8, 645, 646] (by decide +kernel)
set_option maxRecDepth 100000 in
theorem wsL0_in_23 : ∀ w ∈ wsL_law0_r23, w ∈ lw_tbl := inPx [647, 648, 650, 651, 652, 653, 654, 655, 656, 657, 658, 660, 9, 661, 662, 663, 41, 664, 665, 666, 667, 668, 669, 670] (by decide +kernel)
set_option maxRecDepth 100000 in
theorem wsL0_in_24 : ∀ w ∈ wsL_law0_r24, w ∈ lw_tbl := inPx [671, 672, 673, 674, 675, 676, 677, 678, 679, 818, 819, 820, 821, 822, 823, 824, 825, 826, 827, 828, 829, 830, 831, 832] (by decide +kernel)
set_option maxRecDepth 100000 in
theorem wsL0_in_25 : ∀ w ∈ wsL_law0_r25, w ∈ lw_tbl := inPx [833, 834, 835, 836, 837, 839, 17, 840, 841, 842, 844, 18, 845, 846, 847, 848, 849, 851, 852, 853, 854, 855, 856, 857] (by decide +kernel)
set_option maxRecDepth 100000 in
theorem wsL0_in_26 : ∀ w ∈ wsL_law0_r26, w ∈ lw_tbl := inPx [858, 859, 861, 862, 863, 864, 871, 876, 877, 878, 865, 867, 19, 868, 208, 209, 210, 211, 212, 869, 870, 701, 702, 703] (by decide +kernel)
set_option maxRecDepth 100000 in
theorem wsL0_in_27 : ∀ w ∈ wsL_law0_r27, w ∈ lw_tbl := inPx [872, 873, 874, 875, 879, 881, 20, 882, 883, 884, 885, 886, 887, 888, 889, 890, 891, 892, 893, 894, 895, 680, 681, 682] (by decide +kernel)
set_option maxRecDepth 100000 in
theorem wsL0_in_28 : ∀ w ∈ wsL_law0_r28, w ∈ lw_tbl := inPx [683, 704, 700, 705, 706, 707, 708, 896, 897, 898, 899, 900, 917, 918, 919, 921, 922, 923, 924, 925, 926, 911, 912, 913] (by decide +kernel)
set_option maxRecDepth 100000 in
theorem wsL0_in_29 : ∀ w ∈ wsL_law0_r29, w ∈ lw_tbl := List.forall_mem_append.mpr ⟨(inPx (ws := [Cond.methodLink RL 111 yL_off, Cond.static yL_off, Cond.code yL_off cL_off 7 (some .boolean), Cond.methodLink RL 113 yL_multipliers, Cond.static yL_multipliers]) [928, 929, 930, 931, 932] (by decide +kernel)), (List.forall_mem_cons.mpr ⟨(List.mem_append_right _ (List.mem_append_right _ (List.mem_append_right _ (List.mem_append_right _ ((show (Cond.code yL_multipliers cL_multipliers 1 (some .boolean) : Cond) ∈ tables_1_4 from List.mem_of_getElem? (i := 192) rfl)))))), (List.forall_mem_append.mpr ⟨(inPx (ws := [Cond.methodLink RL 116 yL_glitch, Cond.static yL_glitch]) [934, 935] (by decide +kernel)), (List.forall_mem_cons.mpr ⟨(List.mem_append_right _ (List.mem_append_right _ (List.mem_append_right _ (List.mem_append_right _ ((show (Cond.code yL_glitch cL_glitch 1 (some .boolean) : Cond) ∈ tables_1_4 from List.mem_of_getElem? (i := 195) rfl)))))), (List.forall_mem_append.mpr ⟨(inPx (ws := [Cond.methodLink RL 119 yL_digits, Cond.static yL_digits, Cond.code yL_digits cL_digits 4 (some .boolean), Cond.constant RL 126 (123456789), Cond.constant RL 127 (536870912), Cond.methodLink RL 122 yL_most, Cond.static yL_most]) [937, 938, 939, 940, 941, 942, 943] (by decide +kernel)), (List.forall_mem_cons.mpr ⟨(List.mem_append_right _ (List.mem_append_right _ (List.mem_append_right _ (List.mem_append_right _ ((show (Cond.code yL_most cL_most 2 (some .boolean) : Cond) ∈ tables_1_4 from List.mem_of_getElem? (i := 203) rfl)))))), (inPx (ws := [Cond.constant RL 128 (43690)]) [945] (by decide +kernel))⟩)⟩)⟩)⟩)⟩)⟩

theorem nmJ13 : ∀ a, a < 0 → ∀ b, b < 0 → a ≠ b → (TJ13 a).2.1 ≠ (TJ13 b).2.1 := by decide +kernel
theorem tyJ13_ok : ∀ k, k < 0 → parseFieldDescriptor (TJ13 k).2.2.1 = some (tyJ13 k) := by decide +kernel
theorem nmJ9 : ∀ a, a < 0 → ∀ b, b < 0 → a ≠ b → (TJ9 a).2.1 ≠ (TJ9 b).2.1 := by decide +kernel
theorem tyJ9_ok : ∀ k, k < 0 → parseFieldDescriptor (TJ9 k).2.2.1 = some (tyJ9 k) := by decide +kernel
theorem nmJ0 : ∀ a, a < 0 → ∀ b, b < 0 → a ≠ b → (TJ0 a).2.1 ≠ (TJ0 b).2.1 := by decide +kernel
theorem tyJ0_ok : ∀ k, k < 0 → parseFieldDescriptor (TJ0 k).2.2.1 = some (tyJ0 k) := by decide +kernel
theorem inPx {big ws : List Cond} (ps : List Nat) (h : ws = ps.filterMap (fun i => big[i]?)) : ∀ w ∈ ws, w ∈ big := by
  intro w hw
  rw [h] at hw
  obtain ⟨i, -, hi⟩ := List.mem_filterMap.mp hw
  exact List.mem_of_getElem? hi
set_option maxRecDepth 100000 in
theorem wsL0_in_1 : ∀ w ∈ wsL_law0_r1, w ∈ lw_tbl := inPx [42, 43, 22, 903, 914, 915, 21, 916, 920, 927, 44, 45, 46, 47, 48, 49, 50, 260, 52, 53, 23, 261, 262, 63] (by decide +kernel)
set_option maxRecDepth 100000 in
theorem wsL0_in_2 : ∀ w ∈ wsL_law0_r2, w ∈ lw_tbl := inPx [64, 24, 263, 102, 103, 25, 264, 120, 121, 26, 265, 135, 136, 27, 266, 267, 159, 160, 29, 268, 175, 176, 30, 269] (by decide +kernel)
set_option maxRecDepth 100000 in
theorem wsL0_in_3 : ∀ w ∈ wsL_law0_r3, w ∈ lw_tbl := inPx [190, 191, 31, 270, 202, 203, 32, 271, 224, 33, 54, 55, 56, 57, 62, 58, 66, 67, 68, 69, 71, 72, 73, 74] (by decide +kernel)
set_option maxRecDepth 100000 in
theorem wsL0_in_4 : ∀ w ∈ wsL_law0_r4, w ∈ lw_tbl := inPx [75, 76, 77, 70, 105, 106, 107, 108, 110, 111, 112, 109, 123, 124, 125, 126, 128, 127, 138, 139, 140, 141, 142, 28] (by decide +kernel)
set_option maxRecDepth 100000 in
theorem wsL0_in_5 : ∀ w ∈ wsL_law0_r5, w ∈ lw_tbl := inPx [152, 153, 143, 144, 145, 146, 151, 147, 162, 163, 164, 178, 179, 180, 181, 183, 182, 193, 194, 195, 196, 198, 197, 205] (by decide +kernel)
set_option maxRecDepth 100000 in
theorem wsL0_in_6 : ∀ w ∈ wsL_law0_r6, w ∈ lw_tbl := inPx [206, 207, 226, 227, 228, 229, 231, 232, 233, 234, 235, 230, 256, 257, 258, 259, 904, 905, 906, 907, 908, 909, 910, 901] (by decide +kernel)
set_option maxRecDepth 100000 in
theorem wsL0_in_7 : ∀ w ∈ wsL_law0_r7, w ∈ lw_tbl := inPx [902, 529, 530, 531, 532, 301, 303, 0, 304, 305, 37, 389, 390, 391, 392, 38, 373, 374, 375, 376, 236, 533, 534, 535] (by decide +kernel)
set_option maxRecDepth 100000 in
theorem wsL0_in_8 : ∀ w ∈ wsL_law0_r8, w ∈ lw_tbl := inPx [536, 237, 502, 487, 488, 489, 238, 537, 539, 5, 540, 541, 449, 450, 451, 428, 409, 410, 411, 542, 462, 463, 464, 408] (by decide +kernel)
set_option maxRecDepth 100000 in
theorem wsL0_in_9 : ∀ w ∈ wsL_law0_r9, w ∈ lw_tbl := inPx [543, 544, 545, 546, 129, 552, 553, 39, 554, 547, 548, 549, 466, 467, 468, 550, 551, 474, 475, 476, 555, 556, 557, 558] (by decide +kernel)
set_option maxRecDepth 100000 in
theorem wsL0_in_10 : ∀ w ∈ wsL_law0_r10, w ∈ lw_tbl := inPx [559, 560, 561, 562, 563, 564, 565, 566, 491, 492, 493, 567, 568, 569, 570, 579, 508, 509, 510, 511, 517, 519, 520, 571] (by decide +kernel)
set_option maxRecDepth 100000 in
theorem wsL0_in_11 : ∀ w ∈ wsL_law0_r11, w ∈ lw_tbl := inPx [572, 573, 574, 575, 576, 521, 527, 577, 578, 518, 580, 581, 582, 583, 512, 513, 515, 3, 516, 709, 710, 711, 712, 713] (by decide +kernel)
set_option maxRecDepth 100000 in
theorem wsL0_in_12 : ∀ w ∈ wsL_law0_r12, w ∈ lw_tbl := inPx [714, 715, 716, 717, 718, 684, 40, 719, 720, 721, 722, 724, 725, 726, 727, 728, 730, 10, 731, 433, 732, 733, 734, 735] (by decide +kernel)
set_option maxRecDepth 100000 in
theorem wsL0_in_13 : ∀ w ∈ wsL_law0_r13, w ∈ lw_tbl := inPx [385, 386, 387, 416, 417, 418, 419, 420, 421, 422, 737, 738, 739, 740, 741, 742, 743, 744, 746, 747, 748, 749, 750, 751] (by decide +kernel)
set_option maxRecDepth 100000 in
theorem wsL0_in_14 : ∀ w ∈ wsL_law0_r14, w ∈ lw_tbl := inPx [752, 753, 754, 755, 756, 758, 759, 760, 761, 79, 80, 762, 764, 11, 765, 766, 767, 769, 12, 770, 771, 772, 773, 775] (by decide +kernel)
set_option maxRecDepth 100000 in
theorem wsL0_in_15 : ∀ w ∈ wsL_law0_r15, w ∈ lw_tbl := inPx [13, 776, 777, 778, 779, 780, 781, 782, 784, 14, 785, 786, 787, 788, 789, 790, 791, 792, 793, 794, 795, 796, 797, 798] (by decide +kernel)
set_option maxRecDepth 100000 in
theorem wsL0_in_16 : ∀ w ∈ wsL_law0_r16, w ∈ lw_tbl := inPx [799, 800, 801, 78, 802, 804, 15, 805, 806, 808, 16, 809, 297, 298, 299, 300, 377, 378, 379, 380, 381, 382, 383, 384] (by decide +kernel)
set_option maxRecDepth 100000 in
theorem wsL0_in_17 : ∀ w ∈ wsL_law0_r17, w ∈ lw_tbl := inPx [412, 413, 414, 415, 424, 425, 426, 427, 429, 430, 431, 432, 810, 811, 812, 813, 438, 439, 440, 441, 442, 443, 445, 2] (by decide +kernel)
set_option maxRecDepth 100000 in
theorem wsL0_in_18 : ∀ w ∈ wsL_law0_r18, w ∈ lw_tbl := inPx [446, 447, 448, 452, 453, 454, 455, 457, 458, 459, 460, 461, 465, 469, 470, 471, 472, 473, 478, 479, 480, 481, 482, 483] (by decide +kernel)
set_option maxRecDepth 100000 in
theorem wsL0_in_19 : ∀ w ∈ wsL_law0_r19, w ∈ lw_tbl := inPx [484, 485, 486, 490, 814, 815, 816, 817, 434, 435, 436, 437, 494, 495, 496, 497, 498, 499, 500, 501, 503, 504, 505, 506] (by decide +kernel)
set_option maxRecDepth 100000 in
theorem wsL0_in_20 : ∀ w ∈ wsL_law0_r20, w ∈ lw_tbl := inPx [507, 522, 524, 4, 525, 526, 584, 585, 586, 587, 588, 589, 590, 591, 592, 593, 594, 595, 597, 598, 599, 600, 601, 602] (by decide +kernel)
set_option maxRecDepth 100000 in
theorem wsL0_in_21 : ∀ w ∈ wsL_law0_r21, w ∈ lw_tbl := inPx [603, 604, 605, 606, 607, 608, 609, 611, 6, 612, 613, 614, 615, 616, 165, 166, 167, 617, 618, 619, 620, 621, 622, 623] (by decide +kernel)
set_option maxRecDepth 100000 in
theorem wsL0_in_22 : ∀ w ∈ wsL_law0_r22, w ∈ lw_tbl := inPx [624, 625, 626, 627, 184, 628, 629, 630, 631, 632, 633, 634, 635, 637, 7, 638, 639, 640, 641, 642, 644, 8, 645, 646] (by decide +kernel)
set_option maxRecDepth 100000 in
theorem wsL0_in_23 : ∀ w ∈ wsL_law0_r23, w ∈ lw_tbl := inPx [647, 648, 650, 651, 652, 653, 654, 655, 656, 657, 658, 660, 9, 661, 662, 663, 41, 664, 665, 666, 667, 668, 669, 670] (by decide +kernel)
set_option maxRecDepth 100000 in
theorem wsL0_in_24 : ∀ w ∈ wsL_law0_r24, w ∈ lw_tbl := inPx [671, 672, 673, 674, 675, 676, 677, 678, 679, 818, 819, 820, 821, 822, 823, 824, 825, 826, 827, 828, 829, 830, 831, 832] (by decide +kernel)
set_option maxRecDepth 100000 in
theorem wsL0_in_25 : ∀ w ∈ wsL_law0_r25, w ∈ lw_tbl := inPx [833, 834, 835, 836, 837, 839, 17, 840, 841, 842, 844, 18, 845, 846, 847, 848, 849, 851, 852, 853, 854, 855, 856, 857] (by decide +kernel)
set_option maxRecDepth 100000 in
theorem wsL0_in_26 : ∀ w ∈ wsL_law0_r26, w ∈ lw_tbl := inPx [858, 859, 861, 862, 863, 864, 871, 876, 877, 878, 865, 867, 19, 868, 208, 209, 210, 211, 212, 869, 870, 701, 702, 703] (by decide +kernel)
set_option maxRecDepth 100000 in
theorem wsL0_in_27 : ∀ w ∈ wsL_law0_r27, w ∈ lw_tbl := inPx [872, 873, 874, 875, 879, 881, 20, 882, 883, 884, 885, 886, 887, 888, 889, 890, 891, 892, 893, 894, 895, 680, 681, 682] (by decide +kernel)
set_option maxRecDepth 100000 in
theorem wsL0_in_28 : ∀ w ∈ wsL_law0_r28, w ∈ lw_tbl := inPx [683, 704, 700, 705, 706, 707, 708, 896, 897, 898, 899, 900, 917, 918, 919, 921, 922, 923, 924, 925, 926, 911, 912, 913] (by decide +kernel)
set_option maxRecDepth 100000 in
theorem wsL0_in_29 : ∀ w ∈ wsL_law0_r29, w ∈ lw_tbl := inPx [928, 929, 930, 931, 932, 933, 934, 935, 936, 937, 938, 939, 940, 941, 942, 943, 944, 945] (by decide +kernel)
set_option maxRecDepth 100000 in
theorem wsU_in_110 : ∀ w ∈ wsX110, w ∈ lw_tbl := inPx [272, 274, 276, 278, 280, 282, 284, 286, 288, 290, 292, 294] (by decide +kernel)
set_option maxRecDepth 100000 in
theorem wsU_in_40 : ∀ w ∈ wsX40, w ∈ lw_tbl := inPx [59] (by decide +kernel)
set_option maxRecDepth 100000 in
theorem wsU_in_20 : ∀ w ∈ wsX20, w ∈ lw_tbl := inPx [81, 83, 85, 87, 89, 91, 93, 95, 97, 99] (by decide +kernel)
set_option maxRecDepth 100000 in
theorem wsU_in_100 : ∀ w ∈ wsX100, w ∈ lw_tbl := inPx [113, 115, 117] (by decide +kernel)
set_option maxRecDepth 100000 in
theorem wsU_in_70 : ∀ w ∈ wsX70, w ∈ lw_tbl := inPx [130, 132] (by decide +kernel)
set_option maxRecDepth 100000 in
theorem wsU_in_10 : ∀ w ∈ wsX10, w ∈ lw_tbl := inPx [154, 156] (by decide +kernel)
set_option maxRecDepth 100000 in
theorem wsU_in_50 : ∀ w ∈ wsX50, w ∈ lw_tbl := inPx [168, 170, 172] (by decide +kernel)
set_option maxRecDepth 100000 in
theorem wsU_in_80 : ∀ w ∈ wsX80, w ∈ lw_tbl := inPx [185, 187] (by decide +kernel)
set_option maxRecDepth 100000 in
theorem wsU_in_60 : ∀ w ∈ wsX60, w ∈ lw_tbl := inPx [199] (by decide +kernel)
set_option maxRecDepth 100000 in
theorem wsU_in_00 : ∀ w ∈ wsX00, w ∈ lw_tbl := inPx [213, 215, 217, 219, 221] (by decide +kernel)
set_option maxRecDepth 100000 in
theorem wsU_in_30 : ∀ w ∈ wsX30, w ∈ lw_tbl := inPx [239, 241, 243, 245, 247, 249, 251, 253] (by decide +kernel)
set_option maxRecDepth 100000 in
theorem wsU_in_90 : ∀ w ∈ wsX90, w ∈ lw_tbl := inPx [148] (by decide +kernel)
theorem wsL_law_in0 : ∀ w ∈ wsL_law0, w ∈ lw_tbl := List.forall_mem_append.mpr ⟨List.forall_mem_append.mpr ⟨List.forall_mem_append.mpr ⟨List.forall_mem_append.mpr ⟨List.forall_mem_append.mpr ⟨List.forall_mem_append.mpr ⟨List.forall_mem_append.mpr ⟨List.forall_mem_append.mpr ⟨List.forall_mem_append.mpr ⟨List.forall_mem_append.mpr ⟨List.forall_mem_append.mpr ⟨List.forall_mem_append.mpr ⟨List.forall_mem_append.mpr ⟨List.forall_mem_append.mpr ⟨wsL0_in_1, List.forall_mem_append.mpr ⟨wsL0_in_2, List.forall_mem_append.mpr ⟨wsL0_in_3, List.forall_mem_append.mpr ⟨wsL0_in_4, List.forall_mem_append.mpr ⟨wsL0_in_5, List.forall_mem_append.mpr ⟨wsL0_in_6, List.forall_mem_append.mpr ⟨wsL0_in_7, List.forall_mem_append.mpr ⟨wsL0_in_8, List.forall_mem_append.mpr ⟨wsL0_in_9, List.forall_mem_append.mpr ⟨wsL0_in_10, List.forall_mem_append.mpr ⟨wsL0_in_11, List.forall_mem_append.mpr ⟨wsL0_in_12, List.forall_mem_append.mpr ⟨wsL0_in_13, List.forall_mem_append.mpr ⟨wsL0_in_14, List.forall_mem_append.mpr ⟨wsL0_in_15, List.forall_mem_append.mpr ⟨wsL0_in_16, List.forall_mem_append.mpr ⟨wsL0_in_17, List.forall_mem_append.mpr ⟨wsL0_in_18, List.forall_mem_append.mpr ⟨wsL0_in_19, List.forall_mem_append.mpr ⟨wsL0_in_20, List.forall_mem_append.mpr ⟨wsL0_in_21, List.forall_mem_append.mpr ⟨wsL0_in_22, List.forall_mem_append.mpr ⟨wsL0_in_23, List.forall_mem_append.mpr ⟨wsL0_in_24, List.forall_mem_append.mpr ⟨wsL0_in_25, List.forall_mem_append.mpr ⟨wsL0_in_26, List.forall_mem_append.mpr ⟨wsL0_in_27, List.forall_mem_append.mpr ⟨wsL0_in_28, wsL0_in_29⟩⟩⟩⟩⟩⟩⟩⟩⟩⟩⟩⟩⟩⟩⟩⟩⟩⟩⟩⟩⟩⟩⟩⟩⟩⟩⟩⟩, wsU_in_110⟩, wsU_in_40⟩, wsU_in_20⟩, wsU_in_100⟩, wsU_in_70⟩, wsU_in_10⟩, wsU_in_50⟩, wsU_in_80⟩, wsU_in_60⟩, wsU_in_00⟩, wsU_in_30⟩, wsU_in_90⟩, fun w h => nomatch h⟩
set_option maxRecDepth 100000 in
theorem wsL_law_x0 : ∀ w ∈ (vx_atS RX11 210 "java/lang/IndexOutOfBoundsException" ["java/lang/RuntimeException", "java/lang/Exception"]).filter goodWord, w ∈ lw_tbl := inPx [34, 327, 336, 340, 343, 345, 328, 329, 48, 49, 330, 335, 341, 361, 317, 362, 319, 363, 321, 331, 333, 323, 357, 358, 360, 323, 348, 349, 350, 351, 351, 352, 353, 354, 354, 355, 356, 357, 347, 306, 314, 315, 316, 318, 320, 322, 326, 325, 324] (by decide +kernel)
set_option maxRecDepth 100000 in
theorem wsL_law_x1 : ∀ w ∈ (vx_atS RX11 287 "java/lang/IllegalArgumentException" ["java/lang/RuntimeException", "java/lang/Exception"]).filter goodWord, w ∈ lw_tbl := inPx [34, 327, 336, 340, 343, 345, 328, 329, 48, 49, 330, 335, 341, 361, 317, 362, 319, 363, 321, 331, 333, 323, 357, 358, 360, 323, 403, 404, 405, 351, 351, 352, 353, 354, 354, 355, 356, 357, 402, 393, 395, 338, 396, 397, 398, 399, 326, 325, 400] (by decide +kernel)
set_option maxRecDepth 100000 in
theorem wsL_law_x2 : ∀ w ∈ (vx_atS RX11 107 "java/lang/IllegalStateException" ["java/lang/RuntimeException", "java/lang/Exception"]).filter goodWord, w ∈ lw_tbl := inPx [34, 327, 336, 340, 343, 345, 328, 329, 48, 49, 330, 335, 341, 361, 317, 362, 319, 363, 321, 331, 333, 323, 357, 358, 360, 323, 695, 696, 697, 351, 351, 352, 353, 354, 354, 355, 356, 357, 694, 685, 687, 339, 688, 689, 690, 691, 326, 325, 692] (by decide +kernel)
theorem wsL_law_in : ∀ w ∈ wsL_law, w ∈ lw_tbl := fun w h => (List.mem_append.mp h).elim (fun h => (List.mem_append.mp h).elim (fun h => (List.mem_append.mp h).elim (fun h => wsL_law_in0 w h) (fun h => wsL_law_x0 w h)) (fun h => wsL_law_x1 w h)) (fun h => wsL_law_x2 w h)
theorem inlX0 : ∀ w ∈ wsX00, w ∈ wsL_law := fun _ h => List.mem_append_left _ (List.mem_append_left _ (List.mem_append_left _ (List.mem_append_left _ (List.mem_append_left _ (List.mem_append_left _ (List.mem_append_right _ h))))))
theorem inX0 : ∀ w ∈ wsX00, w ∈ lw_tbl := fun w h => wsL_law_in w (inlX0 w h)
theorem inlX1 : ∀ w ∈ wsX10, w ∈ wsL_law := fun _ h => List.mem_append_left _ (List.mem_append_left _ (List.mem_append_left _ (List.mem_append_left _ (List.mem_append_left _ (List.mem_append_left _ (List.mem_append_left _ (List.mem_append_left _ (List.mem_append_left _ (List.mem_append_left _ (List.mem_append_right _ h))))))))))
theorem inX1 : ∀ w ∈ wsX10, w ∈ lw_tbl := fun w h => wsL_law_in w (inlX1 w h)
theorem inlX2 : ∀ w ∈ wsX20, w ∈ wsL_law := fun _ h => List.mem_append_left _ (List.mem_append_left _ (List.mem_append_left _ (List.mem_append_left _ (List.mem_append_left _ (List.mem_append_left _ (List.mem_append_left _ (List.mem_append_left _ (List.mem_append_left _ (List.mem_append_left _ (List.mem_append_left _ (List.mem_append_left _ (List.mem_append_left _ (List.mem_append_right _ h)))))))))))))
theorem inX2 : ∀ w ∈ wsX20, w ∈ lw_tbl := fun w h => wsL_law_in w (inlX2 w h)
theorem inlX3 : ∀ w ∈ wsX30, w ∈ wsL_law := fun _ h => List.mem_append_left _ (List.mem_append_left _ (List.mem_append_left _ (List.mem_append_left _ (List.mem_append_left _ (List.mem_append_right _ h)))))
theorem inX3 : ∀ w ∈ wsX30, w ∈ lw_tbl := fun w h => wsL_law_in w (inlX3 w h)
theorem inlX4 : ∀ w ∈ wsX40, w ∈ wsL_law := fun _ h => List.mem_append_left _ (List.mem_append_left _ (List.mem_append_left _ (List.mem_append_left _ (List.mem_append_left _ (List.mem_append_left _ (List.mem_append_left _ (List.mem_append_left _ (List.mem_append_left _ (List.mem_append_left _ (List.mem_append_left _ (List.mem_append_left _ (List.mem_append_left _ (List.mem_append_left _ (List.mem_append_right _ h))))))))))))))
theorem inX4 : ∀ w ∈ wsX40, w ∈ lw_tbl := fun w h => wsL_law_in w (inlX4 w h)
theorem inlX5 : ∀ w ∈ wsX50, w ∈ wsL_law := fun _ h => List.mem_append_left _ (List.mem_append_left _ (List.mem_append_left _ (List.mem_append_left _ (List.mem_append_left _ (List.mem_append_left _ (List.mem_append_left _ (List.mem_append_left _ (List.mem_append_left _ (List.mem_append_right _ h)))))))))
theorem inX5 : ∀ w ∈ wsX50, w ∈ lw_tbl := fun w h => wsL_law_in w (inlX5 w h)
theorem inlX6 : ∀ w ∈ wsX60, w ∈ wsL_law := fun _ h => List.mem_append_left _ (List.mem_append_left _ (List.mem_append_left _ (List.mem_append_left _ (List.mem_append_left _ (List.mem_append_left _ (List.mem_append_left _ (List.mem_append_right _ h)))))))
theorem inX6 : ∀ w ∈ wsX60, w ∈ lw_tbl := fun w h => wsL_law_in w (inlX6 w h)
theorem inlX7 : ∀ w ∈ wsX70, w ∈ wsL_law := fun _ h => List.mem_append_left _ (List.mem_append_left _ (List.mem_append_left _ (List.mem_append_left _ (List.mem_append_left _ (List.mem_append_left _ (List.mem_append_left _ (List.mem_append_left _ (List.mem_append_left _ (List.mem_append_left _ (List.mem_append_left _ (List.mem_append_right _ h)))))))))))
theorem inX7 : ∀ w ∈ wsX70, w ∈ lw_tbl := fun w h => wsL_law_in w (inlX7 w h)
theorem inlX8 : ∀ w ∈ wsX80, w ∈ wsL_law := fun _ h => List.mem_append_left _ (List.mem_append_left _ (List.mem_append_left _ (List.mem_append_left _ (List.mem_append_left _ (List.mem_append_left _ (List.mem_append_left _ (List.mem_append_left _ (List.mem_append_right _ h))))))))
theorem inX8 : ∀ w ∈ wsX80, w ∈ lw_tbl := fun w h => wsL_law_in w (inlX8 w h)
theorem inlX9 : ∀ w ∈ wsX90, w ∈ wsL_law := fun _ h => List.mem_append_left _ (List.mem_append_left _ (List.mem_append_left _ (List.mem_append_left _ (List.mem_append_right _ h))))
theorem inX9 : ∀ w ∈ wsX90, w ∈ lw_tbl := fun w h => wsL_law_in w (inlX9 w h)
theorem inlX10 : ∀ w ∈ wsX100, w ∈ wsL_law := fun _ h => List.mem_append_left _ (List.mem_append_left _ (List.mem_append_left _ (List.mem_append_left _ (List.mem_append_left _ (List.mem_append_left _ (List.mem_append_left _ (List.mem_append_left _ (List.mem_append_left _ (List.mem_append_left _ (List.mem_append_left _ (List.mem_append_left _ (List.mem_append_right _ h))))))))))))
theorem inX10 : ∀ w ∈ wsX100, w ∈ lw_tbl := fun w h => wsL_law_in w (inlX10 w h)
theorem inlX11 : ∀ w ∈ wsX110, w ∈ wsL_law := fun _ h => List.mem_append_left _ (List.mem_append_left _ (List.mem_append_left _ (List.mem_append_left _ (List.mem_append_left _ (List.mem_append_left _ (List.mem_append_left _ (List.mem_append_left _ (List.mem_append_left _ (List.mem_append_left _ (List.mem_append_left _ (List.mem_append_left _ (List.mem_append_left _ (List.mem_append_left _ (List.mem_append_left _ (List.mem_append_right _ h)))))))))))))))
theorem inX11 : ∀ w ∈ wsX110, w ∈ lw_tbl := fun w h => wsL_law_in w (inlX11 w h)
theorem inX12 : ∀ w ∈ wsX120, w ∈ lw_tbl := by decide +kernel
theorem inJ13 : ∀ w ∈ wsJ130, w ∈ lw_tbl := by decide +kernel
theorem inJ9 : ∀ w ∈ wsJ90, w ∈ lw_tbl := by decide +kernel
theorem inJ0 : ∀ w ∈ wsJ00, w ∈ lw_tbl := by decide +kernel

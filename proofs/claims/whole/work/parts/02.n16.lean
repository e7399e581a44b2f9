theorem nmJ13 : ∀ a, a < 0 → ∀ b, b < 0 → a ≠ b → (TJ13 a).2.1 ≠ (TJ13 b).2.1 := by decide +kernel
theorem tyJ13_ok : ∀ k, k < 0 → parseFieldDescriptor (TJ13 k).2.2.1 = some (tyJ13 k) := by decide +kernel
theorem nmJ9 : ∀ a, a < 0 → ∀ b, b < 0 → a ≠ b → (TJ9 a).2.1 ≠ (TJ9 b).2.1 := by decide +kernel
theorem tyJ9_ok : ∀ k, k < 0 → parseFieldDescriptor (TJ9 k).2.2.1 = some (tyJ9 k) := by decide +kernel
theorem nmJ0 : ∀ a, a < 0 → ∀ b, b < 0 → a ≠ b → (TJ0 a).2.1 ≠ (TJ0 b).2.1 := by decide +kernel
theorem tyJ0_ok : ∀ k, k < 0 → parseFieldDescriptor (TJ0 k).2.2.1 = some (tyJ0 k) := by decide +kernel
theorem inPx {big ws : List Cond} (ps : List Nat) (h : ws = ps.filterMap (fun i => big[i]?)) : ∀ w ∈ ws, w ∈ big := by
  intro w hw
  rw [h] at hw
  obtain ⟨i, -, hi⟩ := List.mem_filterMap.mp hw
  exact List.mem_of_getElem? hi
set_option maxRecDepth 100000 in
theorem wsL0_in_1 : ∀ w ∈ wsL_law0_r1, w ∈ lw_tbl := inPx [62, 63, 41, 978, 979, 53, 171, 64, 65, 66, 67, 68, 69, 70, 280, 72, 73, 42, 281, 282, 83, 84, 43, 283] (by decide +kernel)
set_option maxRecDepth 100000 in
theorem wsL0_in_2 : ∀ w ∈ wsL_law0_r2, w ∈ lw_tbl := inPx [122, 123, 44, 284, 140, 141, 45, 285, 155, 156, 46, 286, 287, 179, 180, 48, 288, 195, 196, 49, 289, 210, 211, 50] (by decide +kernel)
set_option maxRecDepth 100000 in
theorem wsL0_in_3 : ∀ w ∈ wsL_law0_r3, w ∈ lw_tbl := inPx [290, 222, 223, 51, 291, 244, 52, 74, 75, 76, 77, 82, 78, 86, 87, 88, 89, 91, 92, 93, 94, 95, 96, 97] (by decide +kernel)
set_option maxRecDepth 100000 in
theorem wsL0_in_4 : ∀ w ∈ wsL_law0_r4, w ∈ lw_tbl := inPx [90, 125, 126, 127, 128, 130, 131, 132, 129, 143, 144, 145, 146, 148, 147, 158, 159, 160, 161, 162, 47, 172, 173, 163] (by decide +kernel)
set_option maxRecDepth 100000 in
theorem wsL0_in_5 : ∀ w ∈ wsL_law0_r5, w ∈ lw_tbl := inPx [164, 165, 166, 167, 182, 183, 184, 198, 199, 200, 201, 203, 202, 213, 214, 215, 216, 218, 217, 225, 226, 227, 246, 247] (by decide +kernel)
set_option maxRecDepth 100000 in
theorem wsL0_in_6 : ∀ w ∈ wsL_law0_r6, w ∈ lw_tbl := inPx [248, 249, 251, 252, 253, 254, 255, 250, 276, 277, 278, 279, 980, 981, 982, 983, 984, 985, 986, 987, 988, 989, 990, 991] (by decide +kernel)
set_option maxRecDepth 100000 in
theorem wsL0_in_7 : ∀ w ∈ wsL_law0_r7, w ∈ lw_tbl := inPx [992, 993, 994, 995, 996, 997, 998, 999, 1000, 1001, 1002, 1003, 1004, 317, 318, 40, 319, 320, 321, 322, 323, 324, 325, 406] (by decide +kernel)
set_option maxRecDepth 100000 in
theorem wsL0_in_8 : ∀ w ∈ wsL_law0_r8, w ∈ lw_tbl := inPx [58, 326, 328, 0, 329, 330, 57, 398, 399, 400, 401, 256, 402, 403, 404, 405, 257, 422, 423, 424, 425, 426, 428, 2] (by decide +kernel)
set_option maxRecDepth 100000 in
theorem wsL0_in_9 : ∀ w ∈ wsL_law0_r9, w ∈ lw_tbl := inPx [429, 430, 1058, 1059, 1060, 1061, 1006, 1062, 1063, 1064, 1065, 1066, 1067, 1068, 1070, 21, 1071, 1054, 1055, 1056, 1057, 431, 432, 433] (by decide +kernel)
set_option maxRecDepth 100000 in
theorem wsL0_in_10 : ∀ w ∈ wsL_law0_r10, w ∈ lw_tbl := inPx [434, 435, 436, 437, 438, 439, 440, 442, 443, 444, 445, 446, 447, 448, 451, 452, 453, 454, 1072, 1073, 1074, 1075, 1076, 1078] (by decide +kernel)
set_option maxRecDepth 100000 in
theorem wsL0_in_11 : ∀ w ∈ wsL_law0_r11, w ∈ lw_tbl := inPx [22, 1079, 455, 456, 457, 458, 459, 460, 461, 462, 463, 464, 465, 258, 467, 468, 469, 470, 1080, 1081, 1082, 1083, 1084, 1086] (by decide +kernel)
set_option maxRecDepth 100000 in
theorem wsL0_in_12 : ∀ w ∈ wsL_law0_r12, w ∈ lw_tbl := inPx [23, 1087, 471, 472, 473, 474, 475, 476, 477, 478, 479, 480, 481, 482, 59, 498, 499, 500, 501, 502, 503, 504, 506, 507] (by decide +kernel)
set_option maxRecDepth 100000 in
theorem wsL0_in_13 : ∀ w ∈ wsL_law0_r13, w ∈ lw_tbl := inPx [508, 509, 99, 100, 510, 512, 3, 513, 514, 515, 517, 4, 518, 519, 520, 521, 523, 5, 524, 525, 526, 527, 528, 529] (by decide +kernel)
set_option maxRecDepth 100000 in
theorem wsL0_in_14 : ∀ w ∈ wsL_law0_r14, w ∈ lw_tbl := inPx [530, 532, 6, 533, 534, 535, 536, 537, 538, 539, 540, 541, 542, 543, 544, 545, 1088, 1089, 1090, 1091, 1092, 1094, 24, 1095] (by decide +kernel)
set_option maxRecDepth 100000 in
theorem wsL0_in_15 : ∀ w ∈ wsL_law0_r15, w ∈ lw_tbl := inPx [1096, 1098, 25, 1099, 1005, 1100, 1102, 26, 1103, 1104, 1106, 27, 1107, 1108, 1110, 28, 1111, 546, 547, 548, 549, 550, 551, 552] (by decide +kernel)
set_option maxRecDepth 100000 in
theorem wsL0_in_16 : ∀ w ∈ wsL_law0_r16, w ∈ lw_tbl := inPx [553, 554, 555, 556, 98, 557, 559, 7, 560, 561, 563, 8, 564, 1112, 1113, 1114, 1115, 565, 566, 567, 568, 569, 570, 571] (by decide +kernel)
set_option maxRecDepth 100000 in
theorem wsL0_in_17 : ∀ w ∈ wsL_law0_r17, w ∈ lw_tbl := inPx [572, 573, 574, 575, 1116, 1117, 1118, 1119, 576, 577, 578, 579, 580, 581, 582, 583, 1120, 1121, 1122, 1123, 584, 585, 586, 587] (by decide +kernel)
set_option maxRecDepth 100000 in
theorem wsL0_in_18 : ∀ w ∈ wsL_law0_r18, w ∈ lw_tbl := inPx [588, 589, 590, 591, 592, 593, 594, 595, 596, 597, 598, 599, 1124, 1125, 1126, 1127, 600, 601, 602, 603, 604, 605, 606, 607] (by decide +kernel)
set_option maxRecDepth 100000 in
theorem wsL0_in_19 : ∀ w ∈ wsL_law0_r19, w ∈ lw_tbl := inPx [608, 609, 610, 611, 612, 614, 9, 615, 616, 617, 618, 619, 620, 621, 622, 623, 624, 626, 627, 628, 629, 630, 631, 632] (by decide +kernel)
set_option maxRecDepth 100000 in
theorem wsL0_in_20 : ∀ w ∈ wsL_law0_r20, w ∈ lw_tbl := inPx [633, 634, 635, 636, 637, 638, 639, 640, 641, 642, 643, 644, 645, 647, 648, 649, 650, 651, 652, 653, 654, 655, 656, 657] (by decide +kernel)
set_option maxRecDepth 100000 in
theorem wsL0_in_21 : ∀ w ∈ wsL_law0_r21, w ∈ lw_tbl := inPx [658, 659, 660, 661, 662, 663, 1128, 1129, 1130, 1131, 1132, 1133, 1134, 1135, 1136, 1138, 29, 1139, 1140, 1141, 1142, 664, 665, 666] (by decide +kernel)
set_option maxRecDepth 100000 in
theorem wsL0_in_22 : ∀ w ∈ wsL_law0_r22, w ∈ lw_tbl := inPx [667, 668, 669, 670, 671, 672, 673, 674, 1143, 1144, 1145, 1146, 1147, 1149, 30, 1150, 1151, 1153, 31, 1154, 675, 676, 677, 678] (by decide +kernel)
set_option maxRecDepth 100000 in
theorem wsL0_in_23 : ∀ w ∈ wsL_law0_r23, w ∈ lw_tbl := inPx [679, 680, 681, 682, 683, 684, 685, 686, 687, 688, 689, 690, 691, 692, 694, 10, 695, 696, 697, 698, 699, 700, 701, 703] (by decide +kernel)
set_option maxRecDepth 100000 in
theorem wsL0_in_24 : ∀ w ∈ wsL_law0_r24, w ∈ lw_tbl := inPx [11, 704, 705, 706, 1155, 1156, 1157, 1158, 708, 709, 710, 711, 712, 713, 714, 715, 717, 12, 718, 719, 720, 721, 722, 723] (by decide +kernel)
set_option maxRecDepth 100000 in
theorem wsL0_in_25 : ∀ w ∈ wsL_law0_r25, w ∈ lw_tbl := inPx [724, 149, 730, 731, 60, 732, 725, 726, 727, 728, 729, 733, 734, 735, 736, 737, 738, 739, 740, 741, 742, 743, 744, 745] (by decide +kernel)
set_option maxRecDepth 100000 in
theorem wsL0_in_26 : ∀ w ∈ wsL_law0_r26, w ∈ lw_tbl := inPx [746, 747, 748, 756, 749, 750, 751, 752, 753, 754, 755, 757, 758, 759, 760, 1159, 1160, 1161, 1162, 1163, 1165, 32, 1166, 1167] (by decide +kernel)
set_option maxRecDepth 100000 in
theorem wsL0_in_27 : ∀ w ∈ wsL_law0_r27, w ∈ lw_tbl := inPx [1169, 33, 1170, 1171, 1173, 34, 1174, 1175, 1177, 35, 1178, 1179, 1181, 36, 1182, 761, 762, 763, 764, 765, 766, 767, 768, 769] (by decide +kernel)
set_option maxRecDepth 100000 in
theorem wsL0_in_28 : ∀ w ∈ wsL_law0_r28, w ∈ lw_tbl := inPx [770, 771, 1183, 1184, 1185, 1186, 772, 773, 774, 775, 776, 777, 778, 780, 781, 782, 783, 784, 1187, 1188, 1189, 1190, 785, 786] (by decide +kernel)
set_option maxRecDepth 100000 in
theorem wsL0_in_29 : ∀ w ∈ wsL_law0_r29, w ∈ lw_tbl := inPx [787, 788, 789, 790, 791, 792, 793, 794, 795, 797, 13, 798, 799, 800, 801, 802, 185, 186, 187, 803, 804, 805, 806, 807] (by decide +kernel)
set_option maxRecDepth 100000 in
theorem wsL0_in_30 : ∀ w ∈ wsL_law0_r30, w ∈ lw_tbl := inPx [808, 809, 810, 811, 812, 813, 204, 814, 815, 816, 817, 818, 819, 820, 821, 823, 14, 824, 825, 826, 827, 828, 830, 15] (by decide +kernel)
set_option maxRecDepth 100000 in
theorem wsL0_in_31 : ∀ w ∈ wsL_law0_r31, w ∈ lw_tbl := inPx [831, 832, 833, 834, 836, 837, 838, 839, 840, 841, 842, 843, 844, 846, 16, 847, 848, 849, 61, 850, 851, 852, 853, 854] (by decide +kernel)
set_option maxRecDepth 100000 in
theorem wsL0_in_32 : ∀ w ∈ wsL_law0_r32, w ∈ lw_tbl := inPx [855, 856, 857, 858, 859, 860, 861, 862, 863, 864, 865, 1191, 1192, 1193, 1194, 1195, 1197, 37, 1198, 866, 867, 868, 869, 870] (by decide +kernel)
set_option maxRecDepth 100000 in
theorem wsL0_in_33 : ∀ w ∈ wsL_law0_r33, w ∈ lw_tbl := inPx [871, 872, 873, 874, 875, 876, 877, 878, 879, 880, 881, 882, 883, 884, 885, 886, 887, 888, 890, 17, 891, 892, 893, 895] (by decide +kernel)
set_option maxRecDepth 100000 in
theorem wsL0_in_34 : ∀ w ∈ wsL_law0_r34, w ∈ lw_tbl := inPx [18, 896, 897, 898, 899, 900, 902, 903, 1199, 1200, 1201, 1202, 904, 905, 906, 907, 908, 909, 910, 911, 912, 913, 915, 916] (by decide +kernel)
set_option maxRecDepth 100000 in
theorem wsL0_in_35 : ∀ w ∈ wsL_law0_r35, w ∈ lw_tbl := inPx [917, 918, 928, 933, 934, 935, 919, 921, 19, 922, 228, 229, 230, 231, 232, 923, 924, 925, 926, 927, 929, 930, 931, 932] (by decide +kernel)
set_option maxRecDepth 100000 in
theorem wsL0_in_36 : ∀ w ∈ wsL_law0_r36, w ∈ lw_tbl := inPx [936, 938, 20, 939, 940, 941, 942, 943, 944, 1203, 1204, 1205, 1206, 1207, 1208, 1209, 1210, 1212, 38, 1213, 1214, 1216, 39, 1217] (by decide +kernel)
set_option maxRecDepth 100000 in
theorem wsL0_in_37 : ∀ w ∈ wsL_law0_r37, w ∈ lw_tbl := inPx [945, 946, 947, 948, 949, 950, 951, 952, 953, 954, 955, 1218, 1219, 1220, 1221, 956, 957, 958, 959, 960, 961, 962, 965, 964] (by decide +kernel)
set_option maxRecDepth 100000 in
theorem wsL0_in_38 : ∀ w ∈ wsL_law0_r38, w ∈ lw_tbl := inPx [966, 967, 968, 969, 1222, 1223, 1224, 1225, 970, 971, 972, 973, 974, 975, 976, 977, 1226, 1227, 1228, 1229] (by decide +kernel)
set_option maxRecDepth 100000 in
theorem wsU_in_110 : ∀ w ∈ wsX110, w ∈ lw_tbl := inPx [292, 294, 296, 298, 300, 302, 304, 306, 308, 310, 312, 314] (by decide +kernel)
set_option maxRecDepth 100000 in
theorem wsU_in_120 : ∀ w ∈ wsX120, w ∈ lw_tbl := inPx [1007, 1009, 1011, 1013, 1015, 1017, 1019, 1021, 1023, 1025, 1027, 1029, 1031, 1033, 1035, 1037, 1039, 1041, 1043, 1045, 1047, 1049, 1051] (by decide +kernel)
set_option maxRecDepth 100000 in
theorem wsU_in_40 : ∀ w ∈ wsX40, w ∈ lw_tbl := inPx [79] (by decide +kernel)
set_option maxRecDepth 100000 in
theorem wsU_in_20 : ∀ w ∈ wsX20, w ∈ lw_tbl := inPx [101, 103, 105, 107, 109, 111, 113, 115, 117, 119] (by decide +kernel)
set_option maxRecDepth 100000 in
theorem wsU_in_100 : ∀ w ∈ wsX100, w ∈ lw_tbl := inPx [133, 135, 137] (by decide +kernel)
set_option maxRecDepth 100000 in
theorem wsU_in_70 : ∀ w ∈ wsX70, w ∈ lw_tbl := inPx [150, 152] (by decide +kernel)
set_option maxRecDepth 100000 in
theorem wsU_in_10 : ∀ w ∈ wsX10, w ∈ lw_tbl := inPx [174, 176] (by decide +kernel)
set_option maxRecDepth 100000 in
theorem wsU_in_50 : ∀ w ∈ wsX50, w ∈ lw_tbl := inPx [188, 190, 192] (by decide +kernel)
set_option maxRecDepth 100000 in
theorem wsU_in_80 : ∀ w ∈ wsX80, w ∈ lw_tbl := inPx [205, 207] (by decide +kernel)
set_option maxRecDepth 100000 in
theorem wsU_in_60 : ∀ w ∈ wsX60, w ∈ lw_tbl := inPx [219] (by decide +kernel)
set_option maxRecDepth 100000 in
theorem wsU_in_00 : ∀ w ∈ wsX00, w ∈ lw_tbl := inPx [233, 235, 237, 239, 241] (by decide +kernel)
set_option maxRecDepth 100000 in
theorem wsU_in_30 : ∀ w ∈ wsX30, w ∈ lw_tbl := inPx [259, 261, 263, 265, 267, 269, 271, 273] (by decide +kernel)
set_option maxRecDepth 100000 in
theorem wsU_in_90 : ∀ w ∈ wsX90, w ∈ lw_tbl := inPx [168] (by decide +kernel)
theorem wsL_law_in0 : ∀ w ∈ wsL_law0, w ∈ lw_tbl := List.forall_mem_append.mpr ⟨List.forall_mem_append.mpr ⟨List.forall_mem_append.mpr ⟨List.forall_mem_append.mpr ⟨List.forall_mem_append.mpr ⟨List.forall_mem_append.mpr ⟨List.forall_mem_append.mpr ⟨List.forall_mem_append.mpr ⟨List.forall_mem_append.mpr ⟨List.forall_mem_append.mpr ⟨List.forall_mem_append.mpr ⟨List.forall_mem_append.mpr ⟨List.forall_mem_append.mpr ⟨List.forall_mem_append.mpr ⟨List.forall_mem_append.mpr ⟨wsL0_in_1, List.forall_mem_append.mpr ⟨wsL0_in_2, List.forall_mem_append.mpr ⟨wsL0_in_3, List.forall_mem_append.mpr ⟨wsL0_in_4, List.forall_mem_append.mpr ⟨wsL0_in_5, List.forall_mem_append.mpr ⟨wsL0_in_6, List.forall_mem_append.mpr ⟨wsL0_in_7, List.forall_mem_append.mpr ⟨wsL0_in_8, List.forall_mem_append.mpr ⟨wsL0_in_9, List.forall_mem_append.mpr ⟨wsL0_in_10, List.forall_mem_append.mpr ⟨wsL0_in_11, List.forall_mem_append.mpr ⟨wsL0_in_12, List.forall_mem_append.mpr ⟨wsL0_in_13, List.forall_mem_append.mpr ⟨wsL0_in_14, List.forall_mem_append.mpr ⟨wsL0_in_15, List.forall_mem_append.mpr ⟨wsL0_in_16, List.forall_mem_append.mpr ⟨wsL0_in_17, List.forall_mem_append.mpr ⟨wsL0_in_18, List.forall_mem_append.mpr ⟨wsL0_in_19, List.forall_mem_append.mpr ⟨wsL0_in_20, List.forall_mem_append.mpr ⟨wsL0_in_21, List.forall_mem_append.mpr ⟨wsL0_in_22, List.forall_mem_append.mpr ⟨wsL0_in_23, List.forall_mem_append.mpr ⟨wsL0_in_24, List.forall_mem_append.mpr ⟨wsL0_in_25, List.forall_mem_append.mpr ⟨wsL0_in_26, List.forall_mem_append.mpr ⟨wsL0_in_27, List.forall_mem_append.mpr ⟨wsL0_in_28, List.forall_mem_append.mpr ⟨wsL0_in_29, List.forall_mem_append.mpr ⟨wsL0_in_30, List.forall_mem_append.mpr ⟨wsL0_in_31, List.forall_mem_append.mpr ⟨wsL0_in_32, List.forall_mem_append.mpr ⟨wsL0_in_33, List.forall_mem_append.mpr ⟨wsL0_in_34, List.forall_mem_append.mpr ⟨wsL0_in_35, List.forall_mem_append.mpr ⟨wsL0_in_36, List.forall_mem_append.mpr ⟨wsL0_in_37, wsL0_in_38⟩⟩⟩⟩⟩⟩⟩⟩⟩⟩⟩⟩⟩⟩⟩⟩⟩⟩⟩⟩⟩⟩⟩⟩⟩⟩⟩⟩⟩⟩⟩⟩⟩⟩⟩⟩⟩, wsU_in_110⟩, wsU_in_120⟩, wsU_in_40⟩, wsU_in_20⟩, wsU_in_100⟩, wsU_in_70⟩, wsU_in_10⟩, wsU_in_50⟩, wsU_in_80⟩, wsU_in_60⟩, wsU_in_00⟩, wsU_in_30⟩, wsU_in_90⟩, fun w h => nomatch h⟩
set_option maxRecDepth 100000 in
theorem wsL_law_x0 : ∀ w ∈ (vx_atS RX11 107 "java/lang/IllegalStateException" ["java/lang/RuntimeException", "java/lang/Exception"]).filter goodWord, w ∈ lw_tbl := inPx [54, 352, 361, 365, 368, 370, 353, 354, 68, 69, 355, 360, 366, 386, 342, 387, 344, 388, 346, 356, 358, 348, 382, 383, 385, 348, 417, 418, 419, 376, 376, 377, 378, 379, 379, 380, 381, 382, 416, 407, 409, 364, 410, 411, 412, 413, 351, 350, 414] (by decide +kernel)
set_option maxRecDepth 100000 in
theorem wsL_law_x1 : ∀ w ∈ (vx_atS RX11 210 "java/lang/IndexOutOfBoundsException" ["java/lang/RuntimeException", "java/lang/Exception"]).filter goodWord, w ∈ lw_tbl := inPx [54, 352, 361, 365, 368, 370, 353, 354, 68, 69, 355, 360, 366, 386, 342, 387, 344, 388, 346, 356, 358, 348, 382, 383, 385, 348, 373, 374, 375, 376, 376, 377, 378, 379, 379, 380, 381, 382, 372, 331, 339, 340, 341, 343, 345, 347, 351, 350, 349] (by decide +kernel)
set_option maxRecDepth 100000 in
theorem wsL_law_x2 : ∀ w ∈ (vx_atS RX11 287 "java/lang/IllegalArgumentException" ["java/lang/RuntimeException", "java/lang/Exception"]).filter goodWord, w ∈ lw_tbl := inPx [54, 352, 361, 365, 368, 370, 353, 354, 68, 69, 355, 360, 366, 386, 342, 387, 344, 388, 346, 356, 358, 348, 382, 383, 385, 348, 493, 494, 495, 376, 376, 377, 378, 379, 379, 380, 381, 382, 492, 483, 485, 363, 486, 487, 488, 489, 351, 350, 490] (by decide +kernel)
theorem wsL_law_in : ∀ w ∈ wsL_law, w ∈ lw_tbl := fun w h => (List.mem_append.mp h).elim (fun h => (List.mem_append.mp h).elim (fun h => (List.mem_append.mp h).elim (fun h => wsL_law_in0 w h) (fun h => wsL_law_x0 w h)) (fun h => wsL_law_x1 w h)) (fun h => wsL_law_x2 w h)
theorem inlX0 : ∀ w ∈ wsX00, w ∈ wsL_law := fun _ h => List.mem_append_left _ (List.mem_append_left _ (List.mem_append_left _ (List.mem_append_left _ (List.mem_append_left _ (List.mem_append_left _ (List.mem_append_right _ h))))))
theorem inX0 : ∀ w ∈ wsX00, w ∈ lw_tbl := fun w h => wsL_law_in w (inlX0 w h)
theorem inlX1 : ∀ w ∈ wsX10, w ∈ wsL_law := fun _ h => List.mem_append_left _ (List.mem_append_left _ (List.mem_append_left _ (List.mem_append_left _ (List.mem_append_left _ (List.mem_append_left _ (List.mem_append_left _ (List.mem_append_left _ (List.mem_append_left _ (List.mem_append_left _ (List.mem_append_right _ h))))))))))
theorem inX1 : ∀ w ∈ wsX10, w ∈ lw_tbl := fun w h => wsL_law_in w (inlX1 w h)
theorem inlX2 : ∀ w ∈ wsX20, w ∈ wsL_law := fun _ h => List.mem_append_left _ (List.mem_append_left _ (List.mem_append_left _ (List.mem_append_left _ (List.mem_append_left _ (List.mem_append_left _ (List.mem_append_left _ (List.mem_append_left _ (List.mem_append_left _ (List.mem_append_left _ (List.mem_append_left _ (List.mem_append_left _ (List.mem_append_left _ (List.mem_append_right _ h)))))))))))))
theorem inX2 : ∀ w ∈ wsX20, w ∈ lw_tbl := fun w h => wsL_law_in w (inlX2 w h)
theorem inlX3 : ∀ w ∈ wsX30, w ∈ wsL_law := fun _ h => List.mem_append_left _ (List.mem_append_left _ (List.mem_append_left _ (List.mem_append_left _ (List.mem_append_left _ (List.mem_append_right _ h)))))
theorem inX3 : ∀ w ∈ wsX30, w ∈ lw_tbl := fun w h => wsL_law_in w (inlX3 w h)
theorem inlX4 : ∀ w ∈ wsX40, w ∈ wsL_law := fun _ h => List.mem_append_left _ (List.mem_append_left _ (List.mem_append_left _ (List.mem_append_left _ (List.mem_append_left _ (List.mem_append_left _ (List.mem_append_left _ (List.mem_append_left _ (List.mem_append_left _ (List.mem_append_left _ (List.mem_append_left _ (List.mem_append_left _ (List.mem_append_left _ (List.mem_append_left _ (List.mem_append_right _ h))))))))))))))
theorem inX4 : ∀ w ∈ wsX40, w ∈ lw_tbl := fun w h => wsL_law_in w (inlX4 w h)
theorem inlX5 : ∀ w ∈ wsX50, w ∈ wsL_law := fun _ h => List.mem_append_left _ (List.mem_append_left _ (List.mem_append_left _ (List.mem_append_left _ (List.mem_append_left _ (List.mem_append_left _ (List.mem_append_left _ (List.mem_append_left _ (List.mem_append_left _ (List.mem_append_right _ h)))))))))
theorem inX5 : ∀ w ∈ wsX50, w ∈ lw_tbl := fun w h => wsL_law_in w (inlX5 w h)
theorem inlX6 : ∀ w ∈ wsX60, w ∈ wsL_law := fun _ h => List.mem_append_left _ (List.mem_append_left _ (List.mem_append_left _ (List.mem_append_left _ (List.mem_append_left _ (List.mem_append_left _ (List.mem_append_left _ (List.mem_append_right _ h)))))))
theorem inX6 : ∀ w ∈ wsX60, w ∈ lw_tbl := fun w h => wsL_law_in w (inlX6 w h)
theorem inlX7 : ∀ w ∈ wsX70, w ∈ wsL_law := fun _ h => List.mem_append_left _ (List.mem_append_left _ (List.mem_append_left _ (List.mem_append_left _ (List.mem_append_left _ (List.mem_append_left _ (List.mem_append_left _ (List.mem_append_left _ (List.mem_append_left _ (List.mem_append_left _ (List.mem_append_left _ (List.mem_append_right _ h)))))))))))
theorem inX7 : ∀ w ∈ wsX70, w ∈ lw_tbl := fun w h => wsL_law_in w (inlX7 w h)
theorem inlX8 : ∀ w ∈ wsX80, w ∈ wsL_law := fun _ h => List.mem_append_left _ (List.mem_append_left _ (List.mem_append_left _ (List.mem_append_left _ (List.mem_append_left _ (List.mem_append_left _ (List.mem_append_left _ (List.mem_append_left _ (List.mem_append_right _ h))))))))
theorem inX8 : ∀ w ∈ wsX80, w ∈ lw_tbl := fun w h => wsL_law_in w (inlX8 w h)
theorem inlX9 : ∀ w ∈ wsX90, w ∈ wsL_law := fun _ h => List.mem_append_left _ (List.mem_append_left _ (List.mem_append_left _ (List.mem_append_left _ (List.mem_append_right _ h))))
theorem inX9 : ∀ w ∈ wsX90, w ∈ lw_tbl := fun w h => wsL_law_in w (inlX9 w h)
theorem inlX10 : ∀ w ∈ wsX100, w ∈ wsL_law := fun _ h => List.mem_append_left _ (List.mem_append_left _ (List.mem_append_left _ (List.mem_append_left _ (List.mem_append_left _ (List.mem_append_left _ (List.mem_append_left _ (List.mem_append_left _ (List.mem_append_left _ (List.mem_append_left _ (List.mem_append_left _ (List.mem_append_left _ (List.mem_append_right _ h))))))))))))
theorem inX10 : ∀ w ∈ wsX100, w ∈ lw_tbl := fun w h => wsL_law_in w (inlX10 w h)
theorem inlX11 : ∀ w ∈ wsX110, w ∈ wsL_law := fun _ h => List.mem_append_left _ (List.mem_append_left _ (List.mem_append_left _ (List.mem_append_left _ (List.mem_append_left _ (List.mem_append_left _ (List.mem_append_left _ (List.mem_append_left _ (List.mem_append_left _ (List.mem_append_left _ (List.mem_append_left _ (List.mem_append_left _ (List.mem_append_left _ (List.mem_append_left _ (List.mem_append_left _ (List.mem_append_left _ (List.mem_append_right _ h))))))))))))))))
theorem inX11 : ∀ w ∈ wsX110, w ∈ lw_tbl := fun w h => wsL_law_in w (inlX11 w h)
theorem inlX12 : ∀ w ∈ wsX120, w ∈ wsL_law := fun _ h => List.mem_append_left _ (List.mem_append_left _ (List.mem_append_left _ (List.mem_append_left _ (List.mem_append_left _ (List.mem_append_left _ (List.mem_append_left _ (List.mem_append_left _ (List.mem_append_left _ (List.mem_append_left _ (List.mem_append_left _ (List.mem_append_left _ (List.mem_append_left _ (List.mem_append_left _ (List.mem_append_left _ (List.mem_append_right _ h)))))))))))))))
theorem inX12 : ∀ w ∈ wsX120, w ∈ lw_tbl := fun w h => wsL_law_in w (inlX12 w h)
theorem inJ13 : ∀ w ∈ wsJ130, w ∈ lw_tbl := by decide +kernel
theorem inJ9 : ∀ w ∈ wsJ90, w ∈ lw_tbl := by decide +kernel
theorem inJ0 : ∀ w ∈ wsJ00, w ∈ lw_tbl := by decide +kernel
theorem dJ9_abs_0f7a4_0 : decode cJ9_abs_0f7a4 0 = .ok (.iload_n 0, 1) := by decide +kernel
theorem dJ9_abs_0f7a4_1 : decode cJ9_abs_0f7a4 1 = .ok (.ifCond .ge 8, 3) := by decide +kernel
theorem dJ9_abs_0f7a4_4 : decode cJ9_abs_0f7a4 4 = .ok (.iload_n 0, 1) := by decide +kernel
theorem dJ9_abs_0f7a4_5 : decode cJ9_abs_0f7a4 5 = .ok (.ineg, 1) := by decide +kernel
theorem dJ9_abs_0f7a4_6 : decode cJ9_abs_0f7a4 6 = .ok (.goto 4, 3) := by decide +kernel
theorem dJ9_abs_0f7a4_9 : decode cJ9_abs_0f7a4 9 = .ok (.iload_n 0, 1) := by decide +kernel
theorem dJ9_abs_0f7a4_10 : decode cJ9_abs_0f7a4 10 = .ok (.ireturn, 1) := by decide +kernel
theorem dJ9_max_7cf53_0 : decode cJ9_max_7cf53 0 = .ok (.iload_n 0, 1) := by decide +kernel
theorem dJ9_max_7cf53_1 : decode cJ9_max_7cf53 1 = .ok (.iload_n 1, 1) := by decide +kernel
theorem dJ9_max_7cf53_2 : decode cJ9_max_7cf53 2 = .ok (.if_icmp .lt 7, 3) := by decide +kernel
theorem dJ9_max_7cf53_5 : decode cJ9_max_7cf53 5 = .ok (.iload_n 0, 1) := by decide +kernel
theorem dJ9_max_7cf53_6 : decode cJ9_max_7cf53 6 = .ok (.goto 4, 3) := by decide +kernel
theorem dJ9_max_7cf53_9 : decode cJ9_max_7cf53 9 = .ok (.iload_n 1, 1) := by decide +kernel
theorem dJ9_max_7cf53_10 : decode cJ9_max_7cf53 10 = .ok (.ireturn, 1) := by decide +kernel
theorem dJ9_min_7cf53_0 : decode cJ9_min_7cf53 0 = .ok (.iload_n 0, 1) := by decide +kernel
theorem dJ9_min_7cf53_1 : decode cJ9_min_7cf53 1 = .ok (.iload_n 1, 1) := by decide +kernel
theorem dJ9_min_7cf53_2 : decode cJ9_min_7cf53 2 = .ok (.if_icmp .gt 7, 3) := by decide +kernel
theorem dJ9_min_7cf53_5 : decode cJ9_min_7cf53 5 = .ok (.iload_n 0, 1) := by decide +kernel
theorem dJ9_min_7cf53_6 : decode cJ9_min_7cf53 6 = .ok (.goto 4, 3) := by decide +kernel
theorem dJ9_min_7cf53_9 : decode cJ9_min_7cf53 9 = .ok (.iload_n 1, 1) := by decide +kernel
theorem dJ9_min_7cf53_10 : decode cJ9_min_7cf53 10 = .ok (.ireturn, 1) := by decide +kernel

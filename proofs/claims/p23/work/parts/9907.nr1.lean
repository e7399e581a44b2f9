theorem nmJ13 : ∀ a, a < 0 → ∀ b, b < 0 → a ≠ b → (TJ13 a).2.1 ≠ (TJ13 b).2.1 := by decide +kernel
theorem tyJ13_ok : ∀ k, k < 0 → parseFieldDescriptor (TJ13 k).2.2.1 = some (tyJ13 k) := by decide +kernel
theorem nmJ9 : ∀ a, a < 0 → ∀ b, b < 0 → a ≠ b → (TJ9 a).2.1 ≠ (TJ9 b).2.1 := by decide +kernel
theorem tyJ9_ok : ∀ k, k < 0 → parseFieldDescriptor (TJ9 k).2.2.1 = some (tyJ9 k) := by decide +kernel
theorem nmJ0 : ∀ a, a < 0 → ∀ b, b < 0 → a ≠ b → (TJ0 a).2.1 ≠ (TJ0 b).2.1 := by decide +kernel
theorem tyJ0_ok : ∀ k, k < 0 → parseFieldDescriptor (TJ0 k).2.2.1 = some (tyJ0 k) := by decide +kernel
theorem inPx {big ws : List Cond} (ps : List Nat) (h : ws = ps.filterMap (fun i => big[i]?)) : ∀ w ∈ ws, w ∈ big := by
  intro w hw
  rw [h] at hw
  obtain ⟨i, -, hi⟩ := List.mem_filterMap.mp hw
  exact List.mem_of_getElem? hi
set_option maxRecDepth 100000 in
theorem wsL0_in_1 : ∀ w ∈ wsL_law0_r1, w ∈ lw_tbl := List.forall_mem_append.mpr ⟨(inPx (ws := [Cond.classLink RL 8 RX11, Cond.instantiable RX11 12, Cond.initialized RX11, Cond.constant RL 81 (-7000003), Cond.methodLink RL 129 yL_adders, Cond.static yL_adders, Cond.initialized RL]) [42, 43, 22, 903, 914, 915, 21] (by decide +kernel)), (List.forall_mem_cons.mpr ⟨(List.mem_append_right _ (List.mem_append_right _ (List.mem_append_right _ (List.mem_append_right _ ((show (Cond.code yL_adders cL_adders 1 (some .boolean) : Cond) ∈ tables_1_4 from List.mem_of_getElem? (i := 175) rfl)))))), (inPx (ws := [Cond.constant RL 101 (1073741823), Cond.constant RL 110 (1073741808), Cond.methodLink RL 92 yX11_init, Cond.instanceMethod yX11_init, Cond.code yX11_init cX11_init 2 none, Cond.methodLink RX11 1 objectInit, Cond.instanceMethod objectInit, Cond.code objectInit ⟨#[0xb1]⟩ 1 none, Cond.classLink RX11 9 RX3, Cond.fieldLink RX11 11 "GateLedger" "nets" "[LGateLedger$Net;", Cond.classLink RX11 15 RX4, Cond.instantiable RX4 1, Cond.initialized RX4, Cond.fieldLink RX11 20 "GateLedger" "delays" "LGateLedger$Row;", Cond.fieldLink RX11 24 "GateLedger" "areas" "LGateLedger$Row;", Cond.classLink RX11 27 RX2]) [920, 927, 44, 45, 46, 47, 48, 49, 50, 260, 52, 53, 23, 261, 262, 63] (by decide +kernel))⟩)⟩
set_option maxRecDepth 100000 in
theorem wsL0_in_2 : ∀ w ∈ wsL_law0_r2, w ∈ lw_tbl := inPx [64, 24, 263, 102, 103, 25, 264, 120, 121, 26, 265, 135, 136, 27, 266, 267, 159, 160, 29, 268, 175, 176, 30, 269] (by decide +kernel)
set_option maxRecDepth 100000 in
theorem wsL0_in_3 : ∀ w ∈ wsL_law0_r3, w ∈ lw_tbl := inPx [190, 191, 31, 270, 202, 203, 32, 271, 224, 33, 54, 55, 56, 57, 62, 58, 66, 67, 68, 69, 71, 72, 73, 74] (by decide +kernel)
set_option maxRecDepth 100000 in
theorem wsL0_in_4 : ∀ w ∈ wsL_law0_r4, w ∈ lw_tbl := inPx [75, 76, 77, 70, 105, 106, 107, 108, 110, 111, 112, 109, 123, 124, 125, 126, 128, 127, 138, 139, 140, 141, 142, 28] (by decide +kernel)
set_option maxRecDepth 100000 in
theorem wsL0_in_5 : ∀ w ∈ wsL_law0_r5, w ∈ lw_tbl := inPx [152, 153, 143, 144, 145, 146, 151, 147, 162, 163, 164, 178, 179, 180, 181, 183, 182, 193, 194, 195, 196, 198, 197, 205] (by decide +kernel)
set_option maxRecDepth 100000 in
theorem wsL0_in_6 : ∀ w ∈ wsL_law0_r6, w ∈ lw_tbl := List.forall_mem_append.mpr ⟨(inPx (ws := [Cond.code yX0_init cX0_init 1 none, Cond.methodLink RX0 3 objectInit, Cond.instanceMethod yX3_init, Cond.code yX3_init cX3_init 1 none, Cond.methodLink RX3 3 objectInit, Cond.classLink RX3 9 RX4, Cond.fieldLink RX3 14 "GateLedger$Net" "kinds" "LGateLedger$Row;", Cond.fieldLink RX3 20 "GateLedger$Net" "firsts" "LGateLedger$Row;", Cond.fieldLink RX3 23 "GateLedger$Net" "seconds" "LGateLedger$Row;", Cond.fieldLink RX3 26 "GateLedger$Net" "stuckBits" "LGateLedger$Row;", Cond.fieldLink RX3 29 "GateLedger$Net" "outs" "LGateLedger$Row;", Cond.methodLink RX3 11 yX4_init, Cond.methodLink RX11 87 yX4_put, Cond.instanceMethod yX4_put, Cond.selects RX4 yX4_put yX4_put, Cond.code yX4_put cX4_put 3 none, Cond.methodLink RL 93 yL_refuses, Cond.static yL_refuses]) [206, 207, 226, 227, 228, 229, 231, 232, 233, 234, 235, 230, 256, 257, 258, 259, 904, 905] (by decide +kernel)), (List.forall_mem_cons.mpr ⟨(List.mem_append_right _ (List.mem_append_right _ (List.mem_append_right _ (List.mem_append_right _ ((show (Cond.code yL_refuses cL_refuses 12 (some .boolean) : Cond) ∈ tables_1_4 from List.mem_of_getElem? (i := 165) rfl)))))), (inPx (ws := [Cond.constant RL 82 (2147483647), Cond.constant RL 83 (40000), Cond.constant RL 84 (8000000), Cond.constant RL 85 (1073741824), Cond.constant RL 75 (-7000001)]) [907, 908, 909, 910, 901] (by decide +kernel))⟩)⟩
set_option maxRecDepth 100000 in
theorem wsL0_in_7 : ∀ w ∈ wsL_law0_r7, w ∈ lw_tbl := inPx [902, 529, 530, 531, 532, 301, 303, 0, 304, 305, 37, 389, 390, 391, 392, 38, 373, 374, 375, 376, 236, 533, 534, 535] (by decide +kernel)
set_option maxRecDepth 100000 in
theorem wsL0_in_8 : ∀ w ∈ wsL_law0_r8, w ∈ lw_tbl := inPx [536, 237, 502, 487, 488, 489, 238, 537, 539, 5, 540, 541, 449, 450, 451, 428, 409, 410, 411, 542, 462, 463, 464, 408] (by decide +kernel)
set_option maxRecDepth 100000 in
theorem wsL0_in_9 : ∀ w ∈ wsL_law0_r9, w ∈ lw_tbl := inPx [543, 544, 545, 546, 129, 552, 553, 39, 554, 547, 548, 549, 466, 467, 468, 550, 551, 474, 475, 476, 555, 556, 557, 558] (by decide +kernel)
set_option maxRecDepth 100000 in
theorem wsL0_in_10 : ∀ w ∈ wsL_law0_r10, w ∈ lw_tbl := inPx [559, 560, 561, 562, 563, 564, 565, 566, 491, 492, 493, 567, 568, 569, 570, 579, 508, 509, 510, 511, 517, 519, 520, 571] (by decide +kernel)
set_option maxRecDepth 100000 in
theorem wsL0_in_11 : ∀ w ∈ wsL_law0_r11, w ∈ lw_tbl := List.forall_mem_append.mpr ⟨(inPx (ws := [Cond.instanceMethod yX4_add, Cond.selects RX4 yX4_add yX4_add, Cond.code yX4_add cX4_add 3 none, Cond.methodLink RX4 13 yX4_at, Cond.methodLink RX4 17 yX4_put, Cond.methodLink RX10 47 yX3_secondOf, Cond.methodLink RX10 50 yX3_kindOf, Cond.methodLink RX10 53 yX3_outCount, Cond.methodLink RX10 56 yX3_outAt, Cond.methodLink RX10 59 yX4_at, Cond.methodLink RX11 200 yX10_idleCount, Cond.instanceMethod yX10_idleCount, Cond.selects RX10 yX10_idleCount yX10_idleCount, Cond.code yX10_idleCount cX10_idleCount 4 (some .int), Cond.methodLink RX10 68 yX4_put, Cond.methodLink RX10 71 yX10_markBack, Cond.instanceMethod yX10_markBack, Cond.selects RX10 yX10_markBack yX10_markBack, Cond.code yX10_markBack cX10_markBack 3 none, Cond.methodLink RL 86 yL_act, Cond.static yL_act]) [572, 573, 574, 575, 576, 521, 527, 577, 578, 518, 580, 581, 582, 583, 512, 513, 515, 3, 516, 709, 710] (by decide +kernel)), (List.forall_mem_cons.mpr ⟨(List.mem_append_right _ (List.mem_append_right _ (List.mem_append_right _ (List.mem_append_left _ (show (Cond.codeWith yL_act cL_act 7 (some .int) [(0, 306, 307, 73), (0, 306, 312, 76), (0, 306, 317, 79)] : Cond) ∈ tables_1_3 from List.mem_of_getElem? (i := 210) rfl))))), (inPx (ws := [Cond.classLink RL 73 "java/lang/IndexOutOfBoundsException", Cond.classLink RL 76 "java/lang/IllegalArgumentException"]) [712, 713] (by decide +kernel))⟩)⟩
set_option maxRecDepth 100000 in
theorem wsL0_in_12 : ∀ w ∈ wsL_law0_r12, w ∈ lw_tbl := inPx [714, 715, 716, 717, 718, 684, 40, 719, 720, 721, 722, 724, 725, 726, 727, 728, 730, 10, 731, 433, 732, 733, 734, 735] (by decide +kernel)
set_option maxRecDepth 100000 in
theorem wsL0_in_13 : ∀ w ∈ wsL_law0_r13, w ∈ lw_tbl := inPx [385, 386, 387, 416, 417, 418, 419, 420, 421, 422, 737, 738, 739, 740, 741, 742, 743, 744, 746, 747, 748, 749, 750, 751] (by decide +kernel)
set_option maxRecDepth 100000 in
theorem wsL0_in_14 : ∀ w ∈ wsL_law0_r14, w ∈ lw_tbl := inPx [752, 753, 754, 755, 756, 758, 759, 760, 761, 79, 80, 762, 764, 11, 765, 766, 767, 769, 12, 770, 771, 772, 773, 775] (by decide +kernel)

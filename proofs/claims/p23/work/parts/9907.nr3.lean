set_option maxRecDepth 100000 in
theorem wsU_in_110 : ∀ w ∈ wsX110, w ∈ lw_tbl := inPx [272, 274, 276, 278, 280, 282, 284, 286, 288, 290, 292, 294] (by decide +kernel)
set_option maxRecDepth 100000 in
theorem wsU_in_40 : ∀ w ∈ wsX40, w ∈ lw_tbl := inPx [59] (by decide +kernel)
set_option maxRecDepth 100000 in
theorem wsU_in_20 : ∀ w ∈ wsX20, w ∈ lw_tbl := inPx [81, 83, 85, 87, 89, 91, 93, 95, 97, 99] (by decide +kernel)
set_option maxRecDepth 100000 in
theorem wsU_in_100 : ∀ w ∈ wsX100, w ∈ lw_tbl := inPx [113, 115, 117] (by decide +kernel)
set_option maxRecDepth 100000 in
theorem wsU_in_70 : ∀ w ∈ wsX70, w ∈ lw_tbl := inPx [130, 132] (by decide +kernel)
set_option maxRecDepth 100000 in
theorem wsU_in_10 : ∀ w ∈ wsX10, w ∈ lw_tbl := inPx [154, 156] (by decide +kernel)
set_option maxRecDepth 100000 in
theorem wsU_in_50 : ∀ w ∈ wsX50, w ∈ lw_tbl := inPx [168, 170, 172] (by decide +kernel)
set_option maxRecDepth 100000 in
theorem wsU_in_80 : ∀ w ∈ wsX80, w ∈ lw_tbl := inPx [185, 187] (by decide +kernel)
set_option maxRecDepth 100000 in
theorem wsU_in_60 : ∀ w ∈ wsX60, w ∈ lw_tbl := inPx [199] (by decide +kernel)
set_option maxRecDepth 100000 in
theorem wsU_in_00 : ∀ w ∈ wsX00, w ∈ lw_tbl := inPx [213, 215, 217, 219, 221] (by decide +kernel)
set_option maxRecDepth 100000 in
theorem wsU_in_30 : ∀ w ∈ wsX30, w ∈ lw_tbl := inPx [239, 241, 243, 245, 247, 249, 251, 253] (by decide +kernel)
set_option maxRecDepth 100000 in
theorem wsU_in_90 : ∀ w ∈ wsX90, w ∈ lw_tbl := inPx [148] (by decide +kernel)
theorem wsL_law_in0 : ∀ w ∈ wsL_law0, w ∈ lw_tbl := List.forall_mem_append.mpr ⟨List.forall_mem_append.mpr ⟨List.forall_mem_append.mpr ⟨List.forall_mem_append.mpr ⟨List.forall_mem_append.mpr ⟨List.forall_mem_append.mpr ⟨List.forall_mem_append.mpr ⟨List.forall_mem_append.mpr ⟨List.forall_mem_append.mpr ⟨List.forall_mem_append.mpr ⟨List.forall_mem_append.mpr ⟨List.forall_mem_append.mpr ⟨List.forall_mem_append.mpr ⟨List.forall_mem_append.mpr ⟨wsL0_in_1, List.forall_mem_append.mpr ⟨wsL0_in_2, List.forall_mem_append.mpr ⟨wsL0_in_3, List.forall_mem_append.mpr ⟨wsL0_in_4, List.forall_mem_append.mpr ⟨wsL0_in_5, List.forall_mem_append.mpr ⟨wsL0_in_6, List.forall_mem_append.mpr ⟨wsL0_in_7, List.forall_mem_append.mpr ⟨wsL0_in_8, List.forall_mem_append.mpr ⟨wsL0_in_9, List.forall_mem_append.mpr ⟨wsL0_in_10, List.forall_mem_append.mpr ⟨wsL0_in_11, List.forall_mem_append.mpr ⟨wsL0_in_12, List.forall_mem_append.mpr ⟨wsL0_in_13, List.forall_mem_append.mpr ⟨wsL0_in_14, List.forall_mem_append.mpr ⟨wsL0_in_15, List.forall_mem_append.mpr ⟨wsL0_in_16, List.forall_mem_append.mpr ⟨wsL0_in_17, List.forall_mem_append.mpr ⟨wsL0_in_18, List.forall_mem_append.mpr ⟨wsL0_in_19, List.forall_mem_append.mpr ⟨wsL0_in_20, List.forall_mem_append.mpr ⟨wsL0_in_21, List.forall_mem_append.mpr ⟨wsL0_in_22, List.forall_mem_append.mpr ⟨wsL0_in_23, List.forall_mem_append.mpr ⟨wsL0_in_24, List.forall_mem_append.mpr ⟨wsL0_in_25, List.forall_mem_append.mpr ⟨wsL0_in_26, List.forall_mem_append.mpr ⟨wsL0_in_27, List.forall_mem_append.mpr ⟨wsL0_in_28, wsL0_in_29⟩⟩⟩⟩⟩⟩⟩⟩⟩⟩⟩⟩⟩⟩⟩⟩⟩⟩⟩⟩⟩⟩⟩⟩⟩⟩⟩⟩, wsU_in_110⟩, wsU_in_40⟩, wsU_in_20⟩, wsU_in_100⟩, wsU_in_70⟩, wsU_in_10⟩, wsU_in_50⟩, wsU_in_80⟩, wsU_in_60⟩, wsU_in_00⟩, wsU_in_30⟩, wsU_in_90⟩, fun w h => nomatch h⟩
set_option maxRecDepth 100000 in
theorem wsL_law_x0 : ∀ w ∈ (vx_atS RX11 210 "java/lang/IndexOutOfBoundsException" ["java/lang/RuntimeException", "java/lang/Exception"]).filter goodWord, w ∈ lw_tbl := inPx [34, 327, 336, 340, 343, 345, 328, 329, 48, 49, 330, 335, 341, 361, 317, 362, 319, 363, 321, 331, 333, 323, 357, 358, 360, 323, 348, 349, 350, 351, 351, 352, 353, 354, 354, 355, 356, 357, 347, 306, 314, 315, 316, 318, 320, 322, 326, 325, 324] (by decide +kernel)
set_option maxRecDepth 100000 in
theorem wsL_law_x1 : ∀ w ∈ (vx_atS RX11 287 "java/lang/IllegalArgumentException" ["java/lang/RuntimeException", "java/lang/Exception"]).filter goodWord, w ∈ lw_tbl := inPx [34, 327, 336, 340, 343, 345, 328, 329, 48, 49, 330, 335, 341, 361, 317, 362, 319, 363, 321, 331, 333, 323, 357, 358, 360, 323, 403, 404, 405, 351, 351, 352, 353, 354, 354, 355, 356, 357, 402, 393, 395, 338, 396, 397, 398, 399, 326, 325, 400] (by decide +kernel)
set_option maxRecDepth 100000 in
theorem wsL_law_x2 : ∀ w ∈ (vx_atS RX11 107 "java/lang/IllegalStateException" ["java/lang/RuntimeException", "java/lang/Exception"]).filter goodWord, w ∈ lw_tbl := inPx [34, 327, 336, 340, 343, 345, 328, 329, 48, 49, 330, 335, 341, 361, 317, 362, 319, 363, 321, 331, 333, 323, 357, 358, 360, 323, 695, 696, 697, 351, 351, 352, 353, 354, 354, 355, 356, 357, 694, 685, 687, 339, 688, 689, 690, 691, 326, 325, 692] (by decide +kernel)
theorem wsL_law_in : ∀ w ∈ wsL_law, w ∈ lw_tbl := fun w h => (List.mem_append.mp h).elim (fun h => (List.mem_append.mp h).elim (fun h => (List.mem_append.mp h).elim (fun h => wsL_law_in0 w h) (fun h => wsL_law_x0 w h)) (fun h => wsL_law_x1 w h)) (fun h => wsL_law_x2 w h)
theorem inlX0 : ∀ w ∈ wsX00, w ∈ wsL_law := fun _ h => List.mem_append_left _ (List.mem_append_left _ (List.mem_append_left _ (List.mem_append_left _ (List.mem_append_left _ (List.mem_append_left _ (List.mem_append_right _ h))))))
theorem inX0 : ∀ w ∈ wsX00, w ∈ lw_tbl := fun w h => wsL_law_in w (inlX0 w h)
theorem inlX1 : ∀ w ∈ wsX10, w ∈ wsL_law := fun _ h => List.mem_append_left _ (List.mem_append_left _ (List.mem_append_left _ (List.mem_append_left _ (List.mem_append_left _ (List.mem_append_left _ (List.mem_append_left _ (List.mem_append_left _ (List.mem_append_left _ (List.mem_append_left _ (List.mem_append_right _ h))))))))))
theorem inX1 : ∀ w ∈ wsX10, w ∈ lw_tbl := fun w h => wsL_law_in w (inlX1 w h)
theorem inlX2 : ∀ w ∈ wsX20, w ∈ wsL_law := fun _ h => List.mem_append_left _ (List.mem_append_left _ (List.mem_append_left _ (List.mem_append_left _ (List.mem_append_left _ (List.mem_append_left _ (List.mem_append_left _ (List.mem_append_left _ (List.mem_append_left _ (List.mem_append_left _ (List.mem_append_left _ (List.mem_append_left _ (List.mem_append_left _ (List.mem_append_right _ h)))))))))))))
theorem inX2 : ∀ w ∈ wsX20, w ∈ lw_tbl := fun w h => wsL_law_in w (inlX2 w h)
theorem inlX3 : ∀ w ∈ wsX30, w ∈ wsL_law := fun _ h => List.mem_append_left _ (List.mem_append_left _ (List.mem_append_left _ (List.mem_append_left _ (List.mem_append_left _ (List.mem_append_right _ h)))))
theorem inX3 : ∀ w ∈ wsX30, w ∈ lw_tbl := fun w h => wsL_law_in w (inlX3 w h)
theorem inlX4 : ∀ w ∈ wsX40, w ∈ wsL_law := fun _ h => List.mem_append_left _ (List.mem_append_left _ (List.mem_append_left _ (List.mem_append_left _ (List.mem_append_left _ (List.mem_append_left _ (List.mem_append_left _ (List.mem_append_left _ (List.mem_append_left _ (List.mem_append_left _ (List.mem_append_left _ (List.mem_append_left _ (List.mem_append_left _ (List.mem_append_left _ (List.mem_append_right _ h))))))))))))))
theorem inX4 : ∀ w ∈ wsX40, w ∈ lw_tbl := fun w h => wsL_law_in w (inlX4 w h)
theorem inlX5 : ∀ w ∈ wsX50, w ∈ wsL_law := fun _ h => List.mem_append_left _ (List.mem_append_left _ (List.mem_append_left _ (List.mem_append_left _ (List.mem_append_left _ (List.mem_append_left _ (List.mem_append_left _ (List.mem_append_left _ (List.mem_append_left _ (List.mem_append_right _ h)))))))))
theorem inX5 : ∀ w ∈ wsX50, w ∈ lw_tbl := fun w h => wsL_law_in w (inlX5 w h)
theorem inlX6 : ∀ w ∈ wsX60, w ∈ wsL_law := fun _ h => List.mem_append_left _ (List.mem_append_left _ (List.mem_append_left _ (List.mem_append_left _ (List.mem_append_left _ (List.mem_append_left _ (List.mem_append_left _ (List.mem_append_right _ h)))))))
theorem inX6 : ∀ w ∈ wsX60, w ∈ lw_tbl := fun w h => wsL_law_in w (inlX6 w h)
theorem inlX7 : ∀ w ∈ wsX70, w ∈ wsL_law := fun _ h => List.mem_append_left _ (List.mem_append_left _ (List.mem_append_left _ (List.mem_append_left _ (List.mem_append_left _ (List.mem_append_left _ (List.mem_append_left _ (List.mem_append_left _ (List.mem_append_left _ (List.mem_append_left _ (List.mem_append_left _ (List.mem_append_right _ h)))))))))))
theorem inX7 : ∀ w ∈ wsX70, w ∈ lw_tbl := fun w h => wsL_law_in w (inlX7 w h)
theorem inlX8 : ∀ w ∈ wsX80, w ∈ wsL_law := fun _ h => List.mem_append_left _ (List.mem_append_left _ (List.mem_append_left _ (List.mem_append_left _ (List.mem_append_left _ (List.mem_append_left _ (List.mem_append_left _ (List.mem_append_left _ (List.mem_append_right _ h))))))))
theorem inX8 : ∀ w ∈ wsX80, w ∈ lw_tbl := fun w h => wsL_law_in w (inlX8 w h)
theorem inlX9 : ∀ w ∈ wsX90, w ∈ wsL_law := fun _ h => List.mem_append_left _ (List.mem_append_left _ (List.mem_append_left _ (List.mem_append_left _ (List.mem_append_right _ h))))
theorem inX9 : ∀ w ∈ wsX90, w ∈ lw_tbl := fun w h => wsL_law_in w (inlX9 w h)
theorem inlX10 : ∀ w ∈ wsX100, w ∈ wsL_law := fun _ h => List.mem_append_left _ (List.mem_append_left _ (List.mem_append_left _ (List.mem_append_left _ (List.mem_append_left _ (List.mem_append_left _ (List.mem_append_left _ (List.mem_append_left _ (List.mem_append_left _ (List.mem_append_left _ (List.mem_append_left _ (List.mem_append_left _ (List.mem_append_right _ h))))))))))))
theorem inX10 : ∀ w ∈ wsX100, w ∈ lw_tbl := fun w h => wsL_law_in w (inlX10 w h)
theorem inlX11 : ∀ w ∈ wsX110, w ∈ wsL_law := fun _ h => List.mem_append_left _ (List.mem_append_left _ (List.mem_append_left _ (List.mem_append_left _ (List.mem_append_left _ (List.mem_append_left _ (List.mem_append_left _ (List.mem_append_left _ (List.mem_append_left _ (List.mem_append_left _ (List.mem_append_left _ (List.mem_append_left _ (List.mem_append_left _ (List.mem_append_left _ (List.mem_append_left _ (List.mem_append_right _ h)))))))))))))))
theorem inX11 : ∀ w ∈ wsX110, w ∈ lw_tbl := fun w h => wsL_law_in w (inlX11 w h)
theorem inX12 : ∀ w ∈ wsX120, w ∈ lw_tbl := by decide +kernel
theorem inJ13 : ∀ w ∈ wsJ130, w ∈ lw_tbl := by decide +kernel
theorem inJ9 : ∀ w ∈ wsJ90, w ∈ lw_tbl := by decide +kernel
theorem inJ0 : ∀ w ∈ wsJ00, w ∈ lw_tbl := by decide +kernel


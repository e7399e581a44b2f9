set_option maxRecDepth 20000 in
theorem ggL_input_X11_input : GoodIn wsL_input wsX11_input := goodIn_ca (goodIn_ca (goodIn_r _ [7, 8, 9, 10, 11, 12, 6, 13, 14, 15, 16, 17, 18, 19, 20, 21, 22, 23, 24, 25, 26, 27, 28, 29, 30, 31, 32, 33, 34, 35, 36, 37, 38, 39, 40, 41, 42, 43, 44, 45, 46, 47, 48, 49, 50, 51, 52, 53, 54, 55, 56, 57, 58, 59, 60, 61, 62, 63, 64, 65, 66] (by decide +kernel) (by decide +kernel)) (goodIn_sub (fun _ h => List.mem_cons_of_mem _ (List.mem_append_left _ (List.mem_append_right _ h))) (by decide +kernel))) (goodIn_sub (fun _ h => List.mem_cons_of_mem _ (List.mem_append_right _ h)) (by decide +kernel))
set_option maxRecDepth 20000 in
theorem gL_input_X11_input : GoodIn wsL_input (wsV RL 7 RX11 yX11_input wsX11_input) := goodIn_app (goodIn_of _ (by decide +kernel)) ggL_input_X11_input
theorem dL_input_0 : decode cL_input 0 = .ok (.aload_n 2, 1) := by decide +kernel
theorem dL_input_1 : decode cL_input 1 = .ok (.iconst 0, 1) := by decide +kernel
theorem dL_input_2 : decode cL_input 2 = .ok (.aload_n 0, 1) := by decide +kernel
theorem dL_input_3 : decode cL_input 3 = .ok (.iload_n 1, 1) := by decide +kernel
theorem dL_input_4 : decode cL_input 4 = .ok (.invokevirtual 7, 3) := by decide +kernel
theorem dL_input_7 : decode cL_input 7 = .ok (.i2l, 1) := by decide +kernel
theorem dL_input_8 : decode cL_input 8 = .ok (.lastore, 1) := by decide +kernel
theorem dL_input_9 : decode cL_input 9 = .ok (.goto 9, 3) := by decide +kernel
theorem dL_input_12 : decode cL_input 12 = .ok (.astore_n 3, 1) := by decide +kernel
theorem dL_input_13 : decode cL_input 13 = .ok (.iconst 1, 1) := by decide +kernel
theorem dL_input_14 : decode cL_input 14 = .ok (.ireturn, 1) := by decide +kernel
theorem dL_input_15 : decode cL_input 15 = .ok (.astore_n 3, 1) := by decide +kernel
theorem dL_input_16 : decode cL_input 16 = .ok (.iconst 2, 1) := by decide +kernel
theorem dL_input_17 : decode cL_input 17 = .ok (.ireturn, 1) := by decide +kernel
theorem dL_input_18 : decode cL_input 18 = .ok (.iconst 0, 1) := by decide +kernel
theorem dL_input_19 : decode cL_input 19 = .ok (.ireturn, 1) := by decide +kernel
set_option maxRecDepth 20000 in
theorem ggL_gate_X11_gate : GoodIn wsL_gate wsX11_gate := goodIn_ca (goodIn_ca (goodIn_r _ [7, 8, 9, 10, 11, 12, 6, 13, 14, 15, 16, 17, 18, 19, 20, 21, 22, 23, 24, 25, 26, 27, 28, 29, 30, 31, 32, 33, 34, 35, 36, 37, 38, 39, 40, 41, 42, 43, 44, 45, 46, 47, 48, 49, 50, 51, 52, 53, 54, 55, 56, 57, 58, 59, 60, 61, 62, 63, 64, 65, 66, 67, 68, 69, 70, 71] (by decide +kernel) (by decide +kernel)) (goodIn_sub (fun _ h => List.mem_cons_of_mem _ (List.mem_append_left _ (List.mem_append_right _ h))) (by decide +kernel))) (goodIn_sub (fun _ h => List.mem_cons_of_mem _ (List.mem_append_right _ h)) (by decide +kernel))
set_option maxRecDepth 20000 in
theorem gL_gate_X11_gate : GoodIn wsL_gate (wsV RL 17 RX11 yX11_gate wsX11_gate) := goodIn_app (goodIn_of _ (by decide +kernel)) ggL_gate_X11_gate
theorem dL_gate_0 : decode cL_gate 0 = .ok (.aload 5, 2) := by decide +kernel
theorem dL_gate_2 : decode cL_gate 2 = .ok (.iconst 0, 1) := by decide +kernel
theorem dL_gate_3 : decode cL_gate 3 = .ok (.aload_n 0, 1) := by decide +kernel
theorem dL_gate_4 : decode cL_gate 4 = .ok (.iload_n 1, 1) := by decide +kernel
theorem dL_gate_5 : decode cL_gate 5 = .ok (.iload_n 2, 1) := by decide +kernel
theorem dL_gate_6 : decode cL_gate 6 = .ok (.iload_n 3, 1) := by decide +kernel
theorem dL_gate_7 : decode cL_gate 7 = .ok (.iload 4, 2) := by decide +kernel
theorem dL_gate_9 : decode cL_gate 9 = .ok (.invokevirtual 17, 3) := by decide +kernel
theorem dL_gate_12 : decode cL_gate 12 = .ok (.i2l, 1) := by decide +kernel
theorem dL_gate_13 : decode cL_gate 13 = .ok (.lastore, 1) := by decide +kernel
theorem dL_gate_14 : decode cL_gate 14 = .ok (.goto 11, 3) := by decide +kernel
theorem dL_gate_17 : decode cL_gate 17 = .ok (.astore 6, 2) := by decide +kernel
theorem dL_gate_19 : decode cL_gate 19 = .ok (.iconst 1, 1) := by decide +kernel
theorem dL_gate_20 : decode cL_gate 20 = .ok (.ireturn, 1) := by decide +kernel
theorem dL_gate_21 : decode cL_gate 21 = .ok (.astore 6, 2) := by decide +kernel
theorem dL_gate_23 : decode cL_gate 23 = .ok (.iconst 2, 1) := by decide +kernel
theorem dL_gate_24 : decode cL_gate 24 = .ok (.ireturn, 1) := by decide +kernel
theorem dL_gate_25 : decode cL_gate 25 = .ok (.iconst 0, 1) := by decide +kernel
theorem dL_gate_26 : decode cL_gate 26 = .ok (.ireturn, 1) := by decide +kernel
set_option maxRecDepth 20000 in
theorem ggL_out_X11_out : GoodIn wsL_out wsX11_out := goodIn_ca (goodIn_ca (goodIn_r _ [7, 8, 9, 10, 11, 12, 6, 13, 14, 15, 16, 17, 18, 19, 20, 21, 22, 23, 24, 25, 26, 27, 28, 29, 30, 31, 32, 33, 34, 35, 36, 37, 38, 39, 40, 41, 42, 43, 44, 45, 46, 47, 48, 49, 50, 51, 52, 53, 54, 55, 56, 57, 58, 59, 60, 61, 62] (by decide +kernel) (by decide +kernel)) (goodIn_sub (fun _ h => List.mem_cons_of_mem _ (List.mem_append_left _ (List.mem_append_right _ h))) (by decide +kernel))) (goodIn_sub (fun _ h => List.mem_cons_of_mem _ (List.mem_append_right _ h)) (by decide +kernel))
set_option maxRecDepth 20000 in
theorem gL_out_X11_out : GoodIn wsL_out (wsV RL 21 RX11 yX11_out wsX11_out) := goodIn_app (goodIn_of _ (by decide +kernel)) ggL_out_X11_out
theorem dL_out_0 : decode cL_out 0 = .ok (.aload_n 3, 1) := by decide +kernel
theorem dL_out_1 : decode cL_out 1 = .ok (.iconst 0, 1) := by decide +kernel
theorem dL_out_2 : decode cL_out 2 = .ok (.aload_n 0, 1) := by decide +kernel
theorem dL_out_3 : decode cL_out 3 = .ok (.iload_n 1, 1) := by decide +kernel
theorem dL_out_4 : decode cL_out 4 = .ok (.iload_n 2, 1) := by decide +kernel
theorem dL_out_5 : decode cL_out 5 = .ok (.invokevirtual 21, 3) := by decide +kernel
theorem dL_out_8 : decode cL_out 8 = .ok (.i2l, 1) := by decide +kernel
theorem dL_out_9 : decode cL_out 9 = .ok (.lastore, 1) := by decide +kernel
theorem dL_out_10 : decode cL_out 10 = .ok (.goto 11, 3) := by decide +kernel
theorem dL_out_13 : decode cL_out 13 = .ok (.astore 4, 2) := by decide +kernel
theorem dL_out_15 : decode cL_out 15 = .ok (.iconst 1, 1) := by decide +kernel
theorem dL_out_16 : decode cL_out 16 = .ok (.ireturn, 1) := by decide +kernel
theorem dL_out_17 : decode cL_out 17 = .ok (.astore 4, 2) := by decide +kernel
theorem dL_out_19 : decode cL_out 19 = .ok (.iconst 2, 1) := by decide +kernel
theorem dL_out_20 : decode cL_out 20 = .ok (.ireturn, 1) := by decide +kernel
theorem dL_out_21 : decode cL_out 21 = .ok (.iconst 0, 1) := by decide +kernel
theorem dL_out_22 : decode cL_out 22 = .ok (.ireturn, 1) := by decide +kernel
set_option maxRecDepth 20000 in
theorem ggL_adder_X11_adder : GoodIn wsL_adder wsX11_adder := goodIn_ca (goodIn_ca (goodIn_ca (goodIn_r _ [8, 9, 10, 11, 12, 7, 13, 14, 15, 16, 17, 18, 19, 20, 21, 22, 23, 24, 25, 26, 27, 28, 29, 30, 31, 32, 33, 34, 35, 36, 37, 38, 39, 40, 41, 42, 43, 44, 45, 46, 47, 48, 49, 50, 51, 52, 53, 54, 55, 56, 57, 58, 59, 60, 61, 62, 63, 64, 65, 66, 67, 68, 69, 70, 71, 72, 73, 74, 75, 76, 77, 78, 79, 80, 81, 82, 83, 84, 85, 86, 87, 88, 89, 90, 91, 92, 93, 94, 95, 96, 97, 98, 99, 100, 101, 102, 103, 104, 105, 106, 107, 108, 109, 110, 111, 112, 113, 114, 115, 116, 117, 118, 119, 120, 121, 122, 123, 124, 125, 126, 127, 128, 129, 130, 131, 132, 133, 134, 135, 136, 137] (by decide +kernel) (by decide +kernel)) (goodIn_sub (fun _ h => List.mem_cons_of_mem _ (List.mem_append_left _ (List.mem_append_left _ (List.mem_append_right _ h)))) (by decide +kernel))) (goodIn_sub (fun _ h => List.mem_cons_of_mem _ (List.mem_append_left _ (List.mem_append_right _ h))) (by decide +kernel))) (goodIn_sub (fun _ h => List.mem_cons_of_mem _ (List.mem_append_right _ h)) (by decide +kernel))
set_option maxRecDepth 20000 in
theorem gL_adder_X11_adder : GoodIn wsL_adder (wsV RL 25 RX11 yX11_adder wsX11_adder) := goodIn_app (goodIn_of _ (by decide +kernel)) ggL_adder_X11_adder
theorem dL_adder_0 : decode cL_adder 0 = .ok (.aload 4, 2) := by decide +kernel
theorem dL_adder_2 : decode cL_adder 2 = .ok (.iconst 0, 1) := by decide +kernel
theorem dL_adder_3 : decode cL_adder 3 = .ok (.aload_n 0, 1) := by decide +kernel
theorem dL_adder_4 : decode cL_adder 4 = .ok (.iload_n 1, 1) := by decide +kernel
theorem dL_adder_5 : decode cL_adder 5 = .ok (.iload_n 2, 1) := by decide +kernel
theorem dL_adder_6 : decode cL_adder 6 = .ok (.iload_n 3, 1) := by decide +kernel
theorem dL_adder_7 : decode cL_adder 7 = .ok (.invokevirtual 25, 3) := by decide +kernel
theorem dL_adder_10 : decode cL_adder 10 = .ok (.i2l, 1) := by decide +kernel
theorem dL_adder_11 : decode cL_adder 11 = .ok (.lastore, 1) := by decide +kernel
theorem dL_adder_12 : decode cL_adder 12 = .ok (.goto 15, 3) := by decide +kernel
theorem dL_adder_15 : decode cL_adder 15 = .ok (.astore 5, 2) := by decide +kernel
theorem dL_adder_17 : decode cL_adder 17 = .ok (.iconst 1, 1) := by decide +kernel
theorem dL_adder_18 : decode cL_adder 18 = .ok (.ireturn, 1) := by decide +kernel
theorem dL_adder_19 : decode cL_adder 19 = .ok (.astore 5, 2) := by decide +kernel
theorem dL_adder_21 : decode cL_adder 21 = .ok (.iconst 2, 1) := by decide +kernel
theorem dL_adder_22 : decode cL_adder 22 = .ok (.ireturn, 1) := by decide +kernel
theorem dL_adder_23 : decode cL_adder 23 = .ok (.astore 5, 2) := by decide +kernel
theorem dL_adder_25 : decode cL_adder 25 = .ok (.iconst 3, 1) := by decide +kernel
theorem dL_adder_26 : decode cL_adder 26 = .ok (.ireturn, 1) := by decide +kernel
theorem dL_adder_27 : decode cL_adder 27 = .ok (.iconst 0, 1) := by decide +kernel
theorem dL_adder_28 : decode cL_adder 28 = .ok (.ireturn, 1) := by decide +kernel
set_option maxRecDepth 20000 in
theorem ggL_multiplier_X11_multiplier : GoodIn wsL_multiplier wsX11_multiplier := goodIn_ca (goodIn_ca (goodIn_ca (goodIn_r _ [8, 9, 10, 11, 12, 7, 13, 14, 15, 16, 17, 18, 19, 20, 21, 22, 23, 24, 25, 26, 27, 28, 29, 30, 31, 32, 33, 34, 35, 36, 37, 38, 39, 40, 41, 42, 43, 44, 45, 46, 47, 48, 49, 50, 51, 52, 53, 54, 55, 56, 57, 58, 59, 60, 61, 62, 63, 64, 65, 66, 67, 68, 69, 70, 71, 72, 73, 74, 75, 76, 77, 78, 79, 80, 81, 82, 83, 84, 85, 86, 87, 88, 89, 90, 91, 92, 93, 94, 95, 96, 97, 98, 99, 100, 101, 102, 103, 104, 105, 106, 107, 108, 109, 110, 111, 112, 113, 114, 115, 116, 117, 118, 119, 120, 121, 122, 123, 124, 125, 126, 127] (by decide +kernel) (by decide +kernel)) (goodIn_sub (fun _ h => List.mem_cons_of_mem _ (List.mem_append_left _ (List.mem_append_left _ (List.mem_append_right _ h)))) (by decide +kernel))) (goodIn_sub (fun _ h => List.mem_cons_of_mem _ (List.mem_append_left _ (List.mem_append_right _ h))) (by decide +kernel))) (goodIn_sub (fun _ h => List.mem_cons_of_mem _ (List.mem_append_right _ h)) (by decide +kernel))
set_option maxRecDepth 20000 in
theorem gL_multiplier_X11_multiplier : GoodIn wsL_multiplier (wsV RL 31 RX11 yX11_multiplier wsX11_multiplier) := goodIn_app (goodIn_of _ (by decide +kernel)) ggL_multiplier_X11_multiplier
theorem dL_multiplier_0 : decode cL_multiplier 0 = .ok (.aload_n 3, 1) := by decide +kernel
theorem dL_multiplier_1 : decode cL_multiplier 1 = .ok (.iconst 0, 1) := by decide +kernel
theorem dL_multiplier_2 : decode cL_multiplier 2 = .ok (.aload_n 0, 1) := by decide +kernel
theorem dL_multiplier_3 : decode cL_multiplier 3 = .ok (.iload_n 1, 1) := by decide +kernel
theorem dL_multiplier_4 : decode cL_multiplier 4 = .ok (.iload_n 2, 1) := by decide +kernel
theorem dL_multiplier_5 : decode cL_multiplier 5 = .ok (.invokevirtual 31, 3) := by decide +kernel
theorem dL_multiplier_8 : decode cL_multiplier 8 = .ok (.i2l, 1) := by decide +kernel
theorem dL_multiplier_9 : decode cL_multiplier 9 = .ok (.lastore, 1) := by decide +kernel
theorem dL_multiplier_10 : decode cL_multiplier 10 = .ok (.goto 15, 3) := by decide +kernel
theorem dL_multiplier_13 : decode cL_multiplier 13 = .ok (.astore 4, 2) := by decide +kernel
theorem dL_multiplier_15 : decode cL_multiplier 15 = .ok (.iconst 1, 1) := by decide +kernel
theorem dL_multiplier_16 : decode cL_multiplier 16 = .ok (.ireturn, 1) := by decide +kernel
theorem dL_multiplier_17 : decode cL_multiplier 17 = .ok (.astore 4, 2) := by decide +kernel
theorem dL_multiplier_19 : decode cL_multiplier 19 = .ok (.iconst 2, 1) := by decide +kernel
theorem dL_multiplier_20 : decode cL_multiplier 20 = .ok (.ireturn, 1) := by decide +kernel
theorem dL_multiplier_21 : decode cL_multiplier 21 = .ok (.astore 4, 2) := by decide +kernel
theorem dL_multiplier_23 : decode cL_multiplier 23 = .ok (.iconst 3, 1) := by decide +kernel
theorem dL_multiplier_24 : decode cL_multiplier 24 = .ok (.ireturn, 1) := by decide +kernel
theorem dL_multiplier_25 : decode cL_multiplier 25 = .ok (.iconst 0, 1) := by decide +kernel
theorem dL_multiplier_26 : decode cL_multiplier 26 = .ok (.ireturn, 1) := by decide +kernel
set_option maxRecDepth 20000 in
theorem ggL_clear_X11_clear : GoodIn wsL_clear wsX11_clear := goodIn_ca (goodIn_r _ [6, 7, 8, 9, 5, 10, 11, 12, 13, 14, 15, 16, 17, 18, 19, 20, 21, 22, 23, 24, 25, 26, 27, 28, 29, 30, 31, 32, 33, 34, 35, 36, 37, 38, 39, 40, 41, 42, 43, 44, 45] (by decide +kernel) (by decide +kernel)) (goodIn_sub (fun _ h => List.mem_cons_of_mem _ (List.mem_append_right _ h)) (by decide +kernel))
set_option maxRecDepth 20000 in
theorem gL_clear_X11_clear : GoodIn wsL_clear (wsV RL 34 RX11 yX11_clear wsX11_clear) := goodIn_app (goodIn_of _ (by decide +kernel)) ggL_clear_X11_clear
theorem dL_clear_0 : decode cL_clear 0 = .ok (.aload_n 2, 1) := by decide +kernel
theorem dL_clear_1 : decode cL_clear 1 = .ok (.iconst 0, 1) := by decide +kernel
theorem dL_clear_2 : decode cL_clear 2 = .ok (.aload_n 0, 1) := by decide +kernel
theorem dL_clear_3 : decode cL_clear 3 = .ok (.iload_n 1, 1) := by decide +kernel
theorem dL_clear_4 : decode cL_clear 4 = .ok (.invokevirtual 34, 3) := by decide +kernel
theorem dL_clear_7 : decode cL_clear 7 = .ok (.i2l, 1) := by decide +kernel
theorem dL_clear_8 : decode cL_clear 8 = .ok (.lastore, 1) := by decide +kernel
theorem dL_clear_9 : decode cL_clear 9 = .ok (.goto 6, 3) := by decide +kernel
theorem dL_clear_12 : decode cL_clear 12 = .ok (.astore_n 3, 1) := by decide +kernel
theorem dL_clear_13 : decode cL_clear 13 = .ok (.iconst 1, 1) := by decide +kernel
theorem dL_clear_14 : decode cL_clear 14 = .ok (.ireturn, 1) := by decide +kernel
theorem dL_clear_15 : decode cL_clear 15 = .ok (.iconst 0, 1) := by decide +kernel
theorem dL_clear_16 : decode cL_clear 16 = .ok (.ireturn, 1) := by decide +kernel
set_option maxRecDepth 20000 in
theorem ggL_cost_X11_cost : GoodIn wsL_cost wsX11_cost := goodIn_ca (goodIn_ca (goodIn_r _ [7, 8, 9, 10, 11, 6, 12, 13, 14, 15, 16, 17, 18, 19, 20, 21, 22, 23, 24, 25, 26, 27, 28, 29, 30, 31, 32, 33, 34, 35, 36, 37, 38, 39, 40, 41, 42] (by decide +kernel) (by decide +kernel)) (goodIn_sub (fun _ h => List.mem_cons_of_mem _ (List.mem_append_left _ (List.mem_append_right _ h))) (by decide +kernel))) (goodIn_sub (fun _ h => List.mem_cons_of_mem _ (List.mem_append_right _ h)) (by decide +kernel))
set_option maxRecDepth 20000 in
theorem gL_cost_X11_cost : GoodIn wsL_cost (wsV RL 37 RX11 yX11_cost wsX11_cost) := goodIn_app (goodIn_of _ (by decide +kernel)) ggL_cost_X11_cost
theorem dL_cost_0 : decode cL_cost 0 = .ok (.aload 4, 2) := by decide +kernel
theorem dL_cost_2 : decode cL_cost 2 = .ok (.iconst 0, 1) := by decide +kernel
theorem dL_cost_3 : decode cL_cost 3 = .ok (.aload_n 0, 1) := by decide +kernel
theorem dL_cost_4 : decode cL_cost 4 = .ok (.iload_n 1, 1) := by decide +kernel
theorem dL_cost_5 : decode cL_cost 5 = .ok (.iload_n 2, 1) := by decide +kernel
theorem dL_cost_6 : decode cL_cost 6 = .ok (.iload_n 3, 1) := by decide +kernel
theorem dL_cost_7 : decode cL_cost 7 = .ok (.invokevirtual 37, 3) := by decide +kernel
theorem dL_cost_10 : decode cL_cost 10 = .ok (.i2l, 1) := by decide +kernel
theorem dL_cost_11 : decode cL_cost 11 = .ok (.lastore, 1) := by decide +kernel
theorem dL_cost_12 : decode cL_cost 12 = .ok (.goto 11, 3) := by decide +kernel
theorem dL_cost_15 : decode cL_cost 15 = .ok (.astore 5, 2) := by decide +kernel
theorem dL_cost_17 : decode cL_cost 17 = .ok (.iconst 1, 1) := by decide +kernel
theorem dL_cost_18 : decode cL_cost 18 = .ok (.ireturn, 1) := by decide +kernel
theorem dL_cost_19 : decode cL_cost 19 = .ok (.astore 5, 2) := by decide +kernel
theorem dL_cost_21 : decode cL_cost 21 = .ok (.iconst 2, 1) := by decide +kernel
theorem dL_cost_22 : decode cL_cost 22 = .ok (.ireturn, 1) := by decide +kernel
theorem dL_cost_23 : decode cL_cost 23 = .ok (.iconst 0, 1) := by decide +kernel
theorem dL_cost_24 : decode cL_cost 24 = .ok (.ireturn, 1) := by decide +kernel
set_option maxRecDepth 20000 in
theorem ggL_stick_X11_stick : GoodIn wsL_stick wsX11_stick := goodIn_ca (goodIn_ca (goodIn_r _ [7, 8, 9, 10, 6, 11, 12, 13, 14, 15, 16, 17, 18, 19, 20, 21, 22, 23, 24, 25, 26, 27, 28, 29, 30, 31, 32, 33, 34, 35, 36, 37, 38, 39, 40, 41, 42, 43, 44, 45, 46, 47, 48, 49, 50, 51, 52, 53, 54, 55, 56, 57, 58, 59, 60, 61, 62, 63, 64, 65, 66, 67, 68] (by decide +kernel) (by decide +kernel)) (goodIn_sub (fun _ h => List.mem_cons_of_mem _ (List.mem_append_left _ (List.mem_append_right _ h))) (by decide +kernel))) (goodIn_sub (fun _ h => List.mem_cons_of_mem _ (List.mem_append_right _ h)) (by decide +kernel))
set_option maxRecDepth 20000 in
theorem gL_stick_X11_stick : GoodIn wsL_stick (wsV RL 40 RX11 yX11_stick wsX11_stick) := goodIn_app (goodIn_of _ (by decide +kernel)) ggL_stick_X11_stick
theorem dL_stick_0 : decode cL_stick 0 = .ok (.aload 4, 2) := by decide +kernel
theorem dL_stick_2 : decode cL_stick 2 = .ok (.iconst 0, 1) := by decide +kernel
theorem dL_stick_3 : decode cL_stick 3 = .ok (.aload_n 0, 1) := by decide +kernel
theorem dL_stick_4 : decode cL_stick 4 = .ok (.iload_n 1, 1) := by decide +kernel
theorem dL_stick_5 : decode cL_stick 5 = .ok (.iload_n 2, 1) := by decide +kernel
theorem dL_stick_6 : decode cL_stick 6 = .ok (.iload_n 3, 1) := by decide +kernel
theorem dL_stick_7 : decode cL_stick 7 = .ok (.invokevirtual 40, 3) := by decide +kernel
theorem dL_stick_10 : decode cL_stick 10 = .ok (.i2l, 1) := by decide +kernel
theorem dL_stick_11 : decode cL_stick 11 = .ok (.lastore, 1) := by decide +kernel
theorem dL_stick_12 : decode cL_stick 12 = .ok (.goto 11, 3) := by decide +kernel
theorem dL_stick_15 : decode cL_stick 15 = .ok (.astore 5, 2) := by decide +kernel
theorem dL_stick_17 : decode cL_stick 17 = .ok (.iconst 1, 1) := by decide +kernel
theorem dL_stick_18 : decode cL_stick 18 = .ok (.ireturn, 1) := by decide +kernel
theorem dL_stick_19 : decode cL_stick 19 = .ok (.astore 5, 2) := by decide +kernel
theorem dL_stick_21 : decode cL_stick 21 = .ok (.iconst 2, 1) := by decide +kernel
theorem dL_stick_22 : decode cL_stick 22 = .ok (.ireturn, 1) := by decide +kernel
theorem dL_stick_23 : decode cL_stick 23 = .ok (.iconst 0, 1) := by decide +kernel
theorem dL_stick_24 : decode cL_stick 24 = .ok (.ireturn, 1) := by decide +kernel
set_option maxRecDepth 20000 in
theorem ggL_bit_X11_bit : GoodIn wsL_bit wsX11_bit := goodIn_ca (goodIn_ca (goodIn_r _ [7, 8, 9, 10, 11, 12, 6, 13, 14, 15, 16, 17, 18, 19, 20, 21, 22, 23, 24, 25, 26, 27, 28, 29, 30, 31, 32, 33, 34, 35, 36, 37, 38, 39, 40, 41, 42, 43, 44, 45, 46, 47, 48, 49, 50, 51, 52, 53, 54, 55, 56, 57, 58, 59, 60, 61, 62, 63, 64, 65, 66, 67, 68, 69, 70, 71, 72, 73, 74, 75, 76, 77, 78, 79, 80, 81, 82, 83, 84, 85, 86, 87, 88, 89, 90, 91, 92, 93, 94, 95, 96, 97, 98, 99, 100, 101, 102, 103, 104, 105, 106, 107, 108, 109, 110, 111, 112, 113, 114, 115, 116, 117, 118, 119, 120, 121, 122, 123, 124, 125, 126, 127, 128, 129, 130, 131, 132, 133, 134] (by decide +kernel) (by decide +kernel)) (goodIn_sub (fun _ h => List.mem_cons_of_mem _ (List.mem_append_left _ (List.mem_append_right _ h))) (by decide +kernel))) (goodIn_sub (fun _ h => List.mem_cons_of_mem _ (List.mem_append_right _ h)) (by decide +kernel))
set_option maxRecDepth 20000 in
theorem gL_bit_X11_bit : GoodIn wsL_bit (wsV RL 43 RX11 yX11_bit wsX11_bit) := goodIn_app (goodIn_of _ (by decide +kernel)) ggL_bit_X11_bit
theorem dL_bit_0 : decode cL_bit 0 = .ok (.aload 4, 2) := by decide +kernel
theorem dL_bit_2 : decode cL_bit 2 = .ok (.iconst 0, 1) := by decide +kernel
theorem dL_bit_3 : decode cL_bit 3 = .ok (.aload_n 0, 1) := by decide +kernel
theorem dL_bit_4 : decode cL_bit 4 = .ok (.iload_n 1, 1) := by decide +kernel
theorem dL_bit_5 : decode cL_bit 5 = .ok (.iload_n 2, 1) := by decide +kernel
theorem dL_bit_6 : decode cL_bit 6 = .ok (.iload_n 3, 1) := by decide +kernel
theorem dL_bit_7 : decode cL_bit 7 = .ok (.invokevirtual 43, 3) := by decide +kernel
theorem dL_bit_10 : decode cL_bit 10 = .ok (.i2l, 1) := by decide +kernel
theorem dL_bit_11 : decode cL_bit 11 = .ok (.lastore, 1) := by decide +kernel
theorem dL_bit_12 : decode cL_bit 12 = .ok (.goto 11, 3) := by decide +kernel
theorem dL_bit_15 : decode cL_bit 15 = .ok (.astore 5, 2) := by decide +kernel
theorem dL_bit_17 : decode cL_bit 17 = .ok (.iconst 1, 1) := by decide +kernel
theorem dL_bit_18 : decode cL_bit 18 = .ok (.ireturn, 1) := by decide +kernel
theorem dL_bit_19 : decode cL_bit 19 = .ok (.astore 5, 2) := by decide +kernel
theorem dL_bit_21 : decode cL_bit 21 = .ok (.iconst 2, 1) := by decide +kernel
theorem dL_bit_22 : decode cL_bit 22 = .ok (.ireturn, 1) := by decide +kernel
theorem dL_bit_23 : decode cL_bit 23 = .ok (.iconst 0, 1) := by decide +kernel
theorem dL_bit_24 : decode cL_bit 24 = .ok (.ireturn, 1) := by decide +kernel
set_option maxRecDepth 20000 in
theorem ggL_value_X11_value : GoodIn wsL_value wsX11_value := goodIn_ca (goodIn_ca (goodIn_r _ [7, 8, 9, 10, 11, 12, 6, 13, 14, 15, 16, 17, 18, 19, 20, 21, 22, 23, 24, 25, 26, 27, 28, 29, 30, 31, 32, 33, 34, 35, 36, 37, 38, 39, 40, 41, 42, 43, 44, 45, 46, 47, 48, 49, 50, 51, 52, 53, 54, 55, 56, 57, 58, 59, 60, 61, 62, 63, 64, 65, 66, 67, 68, 69, 70, 71, 72, 73, 74, 75, 76, 77, 78, 79, 80, 81, 82, 83, 84, 85, 86, 87, 88, 89, 90, 91, 92, 93, 94, 95, 96, 97, 98, 99, 100, 101, 102, 103, 104, 105, 106, 107, 108, 109, 110, 111, 112, 113, 114, 115, 116, 117, 118, 119, 120, 121, 122, 123, 124, 125, 126, 127] (by decide +kernel) (by decide +kernel)) (goodIn_sub (fun _ h => List.mem_cons_of_mem _ (List.mem_append_left _ (List.mem_append_right _ h))) (by decide +kernel))) (goodIn_sub (fun _ h => List.mem_cons_of_mem _ (List.mem_append_right _ h)) (by decide +kernel))
set_option maxRecDepth 20000 in
theorem gL_value_X11_value : GoodIn wsL_value (wsV RL 46 RX11 yX11_value wsX11_value) := goodIn_app (goodIn_of _ (by decide +kernel)) ggL_value_X11_value
theorem dL_value_0 : decode cL_value 0 = .ok (.aload_n 3, 1) := by decide +kernel
theorem dL_value_1 : decode cL_value 1 = .ok (.iconst 0, 1) := by decide +kernel
theorem dL_value_2 : decode cL_value 2 = .ok (.aload_n 0, 1) := by decide +kernel
theorem dL_value_3 : decode cL_value 3 = .ok (.iload_n 1, 1) := by decide +kernel
theorem dL_value_4 : decode cL_value 4 = .ok (.iload_n 2, 1) := by decide +kernel
theorem dL_value_5 : decode cL_value 5 = .ok (.invokevirtual 46, 3) := by decide +kernel
theorem dL_value_8 : decode cL_value 8 = .ok (.i2l, 1) := by decide +kernel
theorem dL_value_9 : decode cL_value 9 = .ok (.lastore, 1) := by decide +kernel
theorem dL_value_10 : decode cL_value 10 = .ok (.goto 11, 3) := by decide +kernel
theorem dL_value_13 : decode cL_value 13 = .ok (.astore 4, 2) := by decide +kernel
theorem dL_value_15 : decode cL_value 15 = .ok (.iconst 1, 1) := by decide +kernel
theorem dL_value_16 : decode cL_value 16 = .ok (.ireturn, 1) := by decide +kernel
theorem dL_value_17 : decode cL_value 17 = .ok (.astore 4, 2) := by decide +kernel
theorem dL_value_19 : decode cL_value 19 = .ok (.iconst 2, 1) := by decide +kernel
theorem dL_value_20 : decode cL_value 20 = .ok (.ireturn, 1) := by decide +kernel
theorem dL_value_21 : decode cL_value 21 = .ok (.iconst 0, 1) := by decide +kernel
theorem dL_value_22 : decode cL_value 22 = .ok (.ireturn, 1) := by decide +kernel
set_option maxRecDepth 20000 in
theorem ggL_valueAnew_X11_valueAnew : GoodIn wsL_valueAnew wsX11_valueAnew := goodIn_ca (goodIn_ca (goodIn_r _ [7, 8, 9, 10, 11, 12, 6, 13, 14, 15, 16, 17, 18, 19, 20, 21, 22, 23, 24, 25, 26, 27, 28, 29, 30, 31, 32, 33, 34, 35, 36, 37, 38, 39, 40, 41, 42, 43, 44, 45, 46, 47, 48, 49, 50, 51, 52, 53, 54, 55, 56, 57, 58, 59, 60, 61, 62, 63, 64, 65, 66, 67, 68, 69, 70, 71, 72, 73, 74, 75, 76, 77, 78, 79, 80, 81, 82, 83, 84, 85, 86, 87, 88, 89, 90, 91, 92, 93, 94, 95, 96, 97, 98, 99, 100, 101, 102, 103, 104, 105, 106, 107, 108, 109, 110, 111, 112, 113, 114, 115, 116, 117, 118] (by decide +kernel) (by decide +kernel)) (goodIn_sub (fun _ h => List.mem_cons_of_mem _ (List.mem_append_left _ (List.mem_append_right _ h))) (by decide +kernel))) (goodIn_sub (fun _ h => List.mem_cons_of_mem _ (List.mem_append_right _ h)) (by decide +kernel))
set_option maxRecDepth 20000 in
theorem gL_valueAnew_X11_valueAnew : GoodIn wsL_valueAnew (wsV RL 49 RX11 yX11_valueAnew wsX11_valueAnew) := goodIn_app (goodIn_of _ (by decide +kernel)) ggL_valueAnew_X11_valueAnew
theorem dL_valueAnew_0 : decode cL_valueAnew 0 = .ok (.aload_n 3, 1) := by decide +kernel
theorem dL_valueAnew_1 : decode cL_valueAnew 1 = .ok (.iconst 0, 1) := by decide +kernel
theorem dL_valueAnew_2 : decode cL_valueAnew 2 = .ok (.aload_n 0, 1) := by decide +kernel
theorem dL_valueAnew_3 : decode cL_valueAnew 3 = .ok (.iload_n 1, 1) := by decide +kernel
theorem dL_valueAnew_4 : decode cL_valueAnew 4 = .ok (.iload_n 2, 1) := by decide +kernel
theorem dL_valueAnew_5 : decode cL_valueAnew 5 = .ok (.invokevirtual 49, 3) := by decide +kernel
theorem dL_valueAnew_8 : decode cL_valueAnew 8 = .ok (.i2l, 1) := by decide +kernel
theorem dL_valueAnew_9 : decode cL_valueAnew 9 = .ok (.lastore, 1) := by decide +kernel
theorem dL_valueAnew_10 : decode cL_valueAnew 10 = .ok (.goto 11, 3) := by decide +kernel
theorem dL_valueAnew_13 : decode cL_valueAnew 13 = .ok (.astore 4, 2) := by decide +kernel
theorem dL_valueAnew_15 : decode cL_valueAnew 15 = .ok (.iconst 1, 1) := by decide +kernel
theorem dL_valueAnew_16 : decode cL_valueAnew 16 = .ok (.ireturn, 1) := by decide +kernel
theorem dL_valueAnew_17 : decode cL_valueAnew 17 = .ok (.astore 4, 2) := by decide +kernel
theorem dL_valueAnew_19 : decode cL_valueAnew 19 = .ok (.iconst 2, 1) := by decide +kernel
theorem dL_valueAnew_20 : decode cL_valueAnew 20 = .ok (.ireturn, 1) := by decide +kernel
theorem dL_valueAnew_21 : decode cL_valueAnew 21 = .ok (.iconst 0, 1) := by decide +kernel
theorem dL_valueAnew_22 : decode cL_valueAnew 22 = .ok (.ireturn, 1) := by decide +kernel
set_option maxRecDepth 20000 in
theorem ggL_ofNet_X11_ofNet : GoodIn wsL_ofNet wsX11_ofNet := goodIn_ca (goodIn_ca (goodIn_r _ [7, 8, 9, 10, 11, 12, 13, 6, 14, 15, 16, 17, 18, 19, 20, 21, 22, 23, 24, 25, 26, 27, 28, 29, 30, 31, 32, 33, 34, 35, 36, 37, 38, 39, 40, 41, 42, 43, 44, 45, 46, 47, 48, 49, 50, 51, 52, 53, 54, 55, 56, 57, 58, 59, 60, 61, 62, 63, 64, 65, 66, 67, 68, 69, 70, 71, 72, 73, 74, 75, 76, 77, 78, 79, 80, 81, 82, 83, 84, 85, 86, 87, 88, 89, 90, 91, 92, 93, 94, 95, 96, 97, 98, 99, 100, 101, 102, 103, 104, 105, 106, 107, 108, 109, 110, 111, 112, 113, 114, 115, 116, 117, 118, 119, 120, 121, 122, 123, 124, 125, 126, 127, 128, 129, 130, 131, 132, 133, 134, 135, 136, 137, 138, 139, 140, 141, 142, 143, 144, 145, 146, 147, 148, 149, 150, 151, 152, 153, 154, 155, 156, 157, 158, 159, 160, 161, 162, 163] (by decide +kernel) (by decide +kernel)) (goodIn_sub (fun _ h => List.mem_cons_of_mem _ (List.mem_append_left _ (List.mem_append_right _ h))) (by decide +kernel))) (goodIn_sub (fun _ h => List.mem_cons_of_mem _ (List.mem_append_right _ h)) (by decide +kernel))
set_option maxRecDepth 20000 in
theorem gL_ofNet_X11_ofNet : GoodIn wsL_ofNet (wsV RL 52 RX11 yX11_ofNet wsX11_ofNet) := goodIn_app (goodIn_of _ (by decide +kernel)) ggL_ofNet_X11_ofNet
theorem dL_ofNet_0 : decode cL_ofNet 0 = .ok (.aload_n 3, 1) := by decide +kernel
theorem dL_ofNet_1 : decode cL_ofNet 1 = .ok (.iconst 0, 1) := by decide +kernel
theorem dL_ofNet_2 : decode cL_ofNet 2 = .ok (.aload_n 0, 1) := by decide +kernel
theorem dL_ofNet_3 : decode cL_ofNet 3 = .ok (.iload_n 1, 1) := by decide +kernel
theorem dL_ofNet_4 : decode cL_ofNet 4 = .ok (.iload_n 2, 1) := by decide +kernel
theorem dL_ofNet_5 : decode cL_ofNet 5 = .ok (.invokevirtual 52, 3) := by decide +kernel
theorem dL_ofNet_8 : decode cL_ofNet 8 = .ok (.i2l, 1) := by decide +kernel
theorem dL_ofNet_9 : decode cL_ofNet 9 = .ok (.lastore, 1) := by decide +kernel
theorem dL_ofNet_10 : decode cL_ofNet 10 = .ok (.goto 11, 3) := by decide +kernel
theorem dL_ofNet_13 : decode cL_ofNet 13 = .ok (.astore 4, 2) := by decide +kernel
theorem dL_ofNet_15 : decode cL_ofNet 15 = .ok (.iconst 1, 1) := by decide +kernel
theorem dL_ofNet_16 : decode cL_ofNet 16 = .ok (.ireturn, 1) := by decide +kernel
theorem dL_ofNet_17 : decode cL_ofNet 17 = .ok (.astore 4, 2) := by decide +kernel
theorem dL_ofNet_19 : decode cL_ofNet 19 = .ok (.iconst 2, 1) := by decide +kernel
theorem dL_ofNet_20 : decode cL_ofNet 20 = .ok (.ireturn, 1) := by decide +kernel
theorem dL_ofNet_21 : decode cL_ofNet 21 = .ok (.iconst 0, 1) := by decide +kernel
theorem dL_ofNet_22 : decode cL_ofNet 22 = .ok (.ireturn, 1) := by decide +kernel
set_option maxRecDepth 20000 in
theorem ggL_time_X11_time : GoodIn wsL_time wsX11_time := goodIn_ca (goodIn_r _ [6, 7, 8, 9, 10, 11, 5, 12, 13, 14, 15, 16, 17, 18, 19, 20, 21, 22, 23, 24, 25, 26, 27, 28, 29, 30, 31, 32, 33, 34, 35, 36, 37, 38, 39, 40, 41, 42, 43, 44, 45, 46, 47, 48, 49, 50, 51, 52, 53, 54, 55, 56, 57, 58, 59, 60, 61, 62, 63, 64, 65, 66, 67, 68, 69, 70, 71, 72, 73, 74, 75, 76, 77, 78, 79, 80, 81, 82, 83, 84, 85, 86, 87, 88, 89, 90, 91, 92, 93, 94, 95, 96] (by decide +kernel) (by decide +kernel)) (goodIn_sub (fun _ h => List.mem_cons_of_mem _ (List.mem_append_right _ h)) (by decide +kernel))
set_option maxRecDepth 20000 in
theorem gL_time_X11_time : GoodIn wsL_time (wsV RL 55 RX11 yX11_time wsX11_time) := goodIn_app (goodIn_of _ (by decide +kernel)) ggL_time_X11_time
theorem dL_time_0 : decode cL_time 0 = .ok (.aload_n 3, 1) := by decide +kernel
theorem dL_time_1 : decode cL_time 1 = .ok (.iconst 0, 1) := by decide +kernel
theorem dL_time_2 : decode cL_time 2 = .ok (.aload_n 0, 1) := by decide +kernel
theorem dL_time_3 : decode cL_time 3 = .ok (.iload_n 1, 1) := by decide +kernel
theorem dL_time_4 : decode cL_time 4 = .ok (.iload_n 2, 1) := by decide +kernel
theorem dL_time_5 : decode cL_time 5 = .ok (.invokevirtual 55, 3) := by decide +kernel
theorem dL_time_8 : decode cL_time 8 = .ok (.i2l, 1) := by decide +kernel
theorem dL_time_9 : decode cL_time 9 = .ok (.lastore, 1) := by decide +kernel
theorem dL_time_10 : decode cL_time 10 = .ok (.goto 7, 3) := by decide +kernel
theorem dL_time_13 : decode cL_time 13 = .ok (.astore 4, 2) := by decide +kernel
theorem dL_time_15 : decode cL_time 15 = .ok (.iconst 1, 1) := by decide +kernel
theorem dL_time_16 : decode cL_time 16 = .ok (.ireturn, 1) := by decide +kernel
theorem dL_time_17 : decode cL_time 17 = .ok (.iconst 0, 1) := by decide +kernel
theorem dL_time_18 : decode cL_time 18 = .ok (.ireturn, 1) := by decide +kernel
set_option maxRecDepth 20000 in
theorem ggL_path_X11_path : GoodIn wsL_path wsX11_path := goodIn_ca (goodIn_r _ [6, 7, 8, 9, 10, 11, 12, 13, 5, 14, 15, 16, 17, 18, 19, 20, 21, 22, 23, 24, 25, 26, 27, 28, 29, 30, 31, 32, 33, 34, 35, 36, 37, 38, 39, 40, 41, 42, 43, 44, 45, 46, 47, 48, 49, 50, 51, 52, 53, 54, 55, 56, 57, 58, 59, 60, 61, 62, 63, 64, 65, 66, 67, 68, 69, 70, 71, 72, 73, 74, 75, 76, 77, 78, 79, 80, 81, 82, 83, 84, 85, 86, 87, 88, 89, 90, 91, 92, 93, 94, 95, 96, 97, 98, 99, 100, 101, 102, 103] (by decide +kernel) (by decide +kernel)) (goodIn_sub (fun _ h => List.mem_cons_of_mem _ (List.mem_append_right _ h)) (by decide +kernel))
set_option maxRecDepth 20000 in
theorem gL_path_X11_path : GoodIn wsL_path (wsV RL 58 RX11 yX11_path wsX11_path) := goodIn_app (goodIn_of _ (by decide +kernel)) ggL_path_X11_path
theorem dL_path_0 : decode cL_path 0 = .ok (.aload_n 3, 1) := by decide +kernel
theorem dL_path_1 : decode cL_path 1 = .ok (.iconst 0, 1) := by decide +kernel
theorem dL_path_2 : decode cL_path 2 = .ok (.aload_n 0, 1) := by decide +kernel
theorem dL_path_3 : decode cL_path 3 = .ok (.iload_n 1, 1) := by decide +kernel
theorem dL_path_4 : decode cL_path 4 = .ok (.iload_n 2, 1) := by decide +kernel
theorem dL_path_5 : decode cL_path 5 = .ok (.invokevirtual 58, 3) := by decide +kernel
theorem dL_path_8 : decode cL_path 8 = .ok (.i2l, 1) := by decide +kernel
theorem dL_path_9 : decode cL_path 9 = .ok (.lastore, 1) := by decide +kernel
theorem dL_path_10 : decode cL_path 10 = .ok (.goto 7, 3) := by decide +kernel
theorem dL_path_13 : decode cL_path 13 = .ok (.astore 4, 2) := by decide +kernel
theorem dL_path_15 : decode cL_path 15 = .ok (.iconst 1, 1) := by decide +kernel
theorem dL_path_16 : decode cL_path 16 = .ok (.ireturn, 1) := by decide +kernel
theorem dL_path_17 : decode cL_path 17 = .ok (.iconst 0, 1) := by decide +kernel
theorem dL_path_18 : decode cL_path 18 = .ok (.ireturn, 1) := by decide +kernel
set_option maxRecDepth 20000 in
theorem ggL_changes_X11_changes : GoodIn wsL_changes wsX11_changes := goodIn_ca (goodIn_ca (goodIn_r _ [7, 8, 9, 10, 11, 12, 13, 14, 15, 16, 6, 17, 18, 19, 20, 21, 22, 23, 24, 25, 26, 27, 28, 29, 30, 31, 32, 33, 34, 35, 36, 37, 38, 39, 40, 41, 42, 43, 44, 45, 46, 47, 48, 49, 50, 51, 52, 53, 54, 55, 56, 57, 58, 59, 60, 61, 62, 63, 64, 65, 66, 67, 68, 69, 70, 71, 72, 73, 74, 75, 76, 77, 78, 79, 80, 81, 82, 83, 84, 85, 86, 87, 88, 89, 90, 91, 92, 93, 94, 95, 96, 97, 98, 99, 100, 101, 102, 103, 104, 105, 106, 107, 108, 109, 110, 111, 112, 113, 114, 115, 116, 117, 118, 119, 120, 121, 122, 123, 124, 125, 126, 127, 128, 129, 130, 131, 132, 133, 134, 135, 136, 137, 138, 139, 140, 141, 142, 143, 144, 145, 146, 147, 148, 149, 150, 151, 152, 153, 154, 155, 156, 157, 158, 159, 160, 161, 162, 163, 164, 165, 166, 167, 168, 169, 170, 171, 172, 173, 174, 175, 176, 177, 178, 179, 180, 181, 182, 183, 184, 185, 186, 187, 188, 189, 190, 191, 192, 193, 194, 195, 196, 197, 198, 199, 200, 201, 202, 203, 204, 205, 206, 207, 208, 209, 210, 211, 212, 213, 214, 215, 216, 217, 218, 219, 220, 221, 222, 223, 224, 225, 226, 227, 228, 229, 230, 231, 232, 233, 234, 235, 236, 237] (by decide +kernel) (by decide +kernel)) (goodIn_sub (fun _ h => List.mem_cons_of_mem _ (List.mem_append_left _ (List.mem_append_right _ h))) (by decide +kernel))) (goodIn_sub (fun _ h => List.mem_cons_of_mem _ (List.mem_append_right _ h)) (by decide +kernel))
set_option maxRecDepth 20000 in
theorem gL_changes_X11_changes : GoodIn wsL_changes (wsV RL 61 RX11 yX11_changes wsX11_changes) := goodIn_app (goodIn_of _ (by decide +kernel)) ggL_changes_X11_changes
theorem dL_changes_0 : decode cL_changes 0 = .ok (.aload 5, 2) := by decide +kernel
theorem dL_changes_2 : decode cL_changes 2 = .ok (.iconst 0, 1) := by decide +kernel
theorem dL_changes_3 : decode cL_changes 3 = .ok (.aload_n 0, 1) := by decide +kernel
theorem dL_changes_4 : decode cL_changes 4 = .ok (.iload_n 1, 1) := by decide +kernel
theorem dL_changes_5 : decode cL_changes 5 = .ok (.iload_n 2, 1) := by decide +kernel
theorem dL_changes_6 : decode cL_changes 6 = .ok (.iload_n 3, 1) := by decide +kernel
theorem dL_changes_7 : decode cL_changes 7 = .ok (.iload 4, 2) := by decide +kernel
theorem dL_changes_9 : decode cL_changes 9 = .ok (.invokevirtual 61, 3) := by decide +kernel
theorem dL_changes_12 : decode cL_changes 12 = .ok (.i2l, 1) := by decide +kernel
theorem dL_changes_13 : decode cL_changes 13 = .ok (.lastore, 1) := by decide +kernel
theorem dL_changes_14 : decode cL_changes 14 = .ok (.goto 11, 3) := by decide +kernel
theorem dL_changes_17 : decode cL_changes 17 = .ok (.astore 6, 2) := by decide +kernel
theorem dL_changes_19 : decode cL_changes 19 = .ok (.iconst 1, 1) := by decide +kernel
theorem dL_changes_20 : decode cL_changes 20 = .ok (.ireturn, 1) := by decide +kernel
theorem dL_changes_21 : decode cL_changes 21 = .ok (.astore 6, 2) := by decide +kernel
theorem dL_changes_23 : decode cL_changes 23 = .ok (.iconst 2, 1) := by decide +kernel
theorem dL_changes_24 : decode cL_changes 24 = .ok (.ireturn, 1) := by decide +kernel
theorem dL_changes_25 : decode cL_changes 25 = .ok (.iconst 0, 1) := by decide +kernel
theorem dL_changes_26 : decode cL_changes 26 = .ok (.ireturn, 1) := by decide +kernel
set_option maxRecDepth 20000 in
theorem ggL_changesAnew_X11_changesAnew : GoodIn wsL_changesAnew wsX11_changesAnew := goodIn_ca (goodIn_ca (goodIn_r _ [7, 8, 9, 10, 11, 12, 13, 14, 15, 16, 6, 17, 18, 19, 20, 21, 22, 23, 24, 25, 26, 27, 28, 29, 30, 31, 32, 33, 34, 35, 36, 37, 38, 39, 40, 41, 42, 43, 44, 45, 46, 47, 48, 49, 50, 51, 52, 53, 54, 55, 56, 57, 58, 59, 60, 61, 62, 63, 64, 65, 66, 67, 68, 69, 70, 71, 72, 73, 74, 75, 76, 77, 78, 79, 80, 81, 82, 83, 84, 85, 86, 87, 88, 89, 90, 91, 92, 93, 94, 95, 96, 97, 98, 99, 100, 101, 102, 103, 104, 105, 106, 107, 108, 109, 110, 111, 112, 113, 114, 115, 116, 117, 118, 119, 120, 121, 122, 123, 124, 125, 126, 127, 128, 129, 130, 131, 132, 133, 134, 135, 136, 137, 138, 139, 140, 141, 142, 143, 144, 145, 146, 147, 148, 149, 150, 151, 152, 153, 154, 155, 156, 157, 158, 159, 160, 161, 162, 163, 164, 165, 166, 167, 168, 169, 170, 171, 172, 173, 174, 175, 176, 177, 178, 179, 180, 181, 182, 183, 184, 185, 186, 187, 188, 189, 190, 191, 192, 193, 194, 195, 196, 197, 198, 199, 200, 201, 202, 203, 204, 205, 206, 207, 208, 209, 210, 211, 212, 213, 214, 215, 216, 217, 218, 219, 220] (by decide +kernel) (by decide +kernel)) (goodIn_sub (fun _ h => List.mem_cons_of_mem _ (List.mem_append_left _ (List.mem_append_right _ h))) (by decide +kernel))) (goodIn_sub (fun _ h => List.mem_cons_of_mem _ (List.mem_append_right _ h)) (by decide +kernel))
set_option maxRecDepth 20000 in
theorem gL_changesAnew_X11_changesAnew : GoodIn wsL_changesAnew (wsV RL 64 RX11 yX11_changesAnew wsX11_changesAnew) := goodIn_app (goodIn_of _ (by decide +kernel)) ggL_changesAnew_X11_changesAnew
theorem dL_changesAnew_0 : decode cL_changesAnew 0 = .ok (.aload 5, 2) := by decide +kernel
theorem dL_changesAnew_2 : decode cL_changesAnew 2 = .ok (.iconst 0, 1) := by decide +kernel
theorem dL_changesAnew_3 : decode cL_changesAnew 3 = .ok (.aload_n 0, 1) := by decide +kernel
theorem dL_changesAnew_4 : decode cL_changesAnew 4 = .ok (.iload_n 1, 1) := by decide +kernel
theorem dL_changesAnew_5 : decode cL_changesAnew 5 = .ok (.iload_n 2, 1) := by decide +kernel
theorem dL_changesAnew_6 : decode cL_changesAnew 6 = .ok (.iload_n 3, 1) := by decide +kernel
theorem dL_changesAnew_7 : decode cL_changesAnew 7 = .ok (.iload 4, 2) := by decide +kernel
theorem dL_changesAnew_9 : decode cL_changesAnew 9 = .ok (.invokevirtual 64, 3) := by decide +kernel
theorem dL_changesAnew_12 : decode cL_changesAnew 12 = .ok (.i2l, 1) := by decide +kernel
theorem dL_changesAnew_13 : decode cL_changesAnew 13 = .ok (.lastore, 1) := by decide +kernel
theorem dL_changesAnew_14 : decode cL_changesAnew 14 = .ok (.goto 11, 3) := by decide +kernel
theorem dL_changesAnew_17 : decode cL_changesAnew 17 = .ok (.astore 6, 2) := by decide +kernel
theorem dL_changesAnew_19 : decode cL_changesAnew 19 = .ok (.iconst 1, 1) := by decide +kernel
theorem dL_changesAnew_20 : decode cL_changesAnew 20 = .ok (.ireturn, 1) := by decide +kernel
theorem dL_changesAnew_21 : decode cL_changesAnew 21 = .ok (.astore 6, 2) := by decide +kernel
theorem dL_changesAnew_23 : decode cL_changesAnew 23 = .ok (.iconst 2, 1) := by decide +kernel
theorem dL_changesAnew_24 : decode cL_changesAnew 24 = .ok (.ireturn, 1) := by decide +kernel
theorem dL_changesAnew_25 : decode cL_changesAnew 25 = .ok (.iconst 0, 1) := by decide +kernel
theorem dL_changesAnew_26 : decode cL_changesAnew 26 = .ok (.ireturn, 1) := by decide +kernel
set_option maxRecDepth 20000 in
theorem ggL_off_X11_off : GoodIn wsL_off wsX11_off := goodIn_ca (goodIn_ca (goodIn_ca (goodIn_r _ [8, 9, 10, 11, 12, 13, 7, 14, 15, 16, 17, 18, 19, 20, 21, 22, 23, 24, 25, 26, 27, 28, 29, 30, 31, 32, 33, 34, 35, 36, 37, 38, 39, 40, 41, 42, 43, 44, 45, 46, 47, 48, 49, 50, 51, 52, 53, 54, 55, 56, 57, 58, 59, 60, 61, 62, 63, 64, 65, 66, 67, 68, 69, 70, 71, 72, 73, 74, 75, 76, 77, 78, 79, 80, 81, 82, 83, 84, 85, 86, 87, 88, 89, 90, 91, 92, 93, 94, 95, 96, 97, 98, 99, 100, 101, 102, 103, 104, 105, 106, 107, 108, 109, 110, 111, 112, 113, 114, 115, 116, 117, 118, 119, 120, 121, 122, 123, 124, 125, 126, 127, 128, 129, 130, 131, 132, 133, 134, 135, 136, 137, 138, 139, 140, 141, 142, 143, 144, 145, 146, 147, 148, 149, 150, 151, 152, 153, 154, 155, 156, 157, 158, 159, 160, 161, 162, 163, 164, 165, 166, 167, 168, 169, 170, 171, 172, 173, 174, 175, 176, 177, 178, 179] (by decide +kernel) (by decide +kernel)) (goodIn_sub (fun _ h => List.mem_cons_of_mem _ (List.mem_append_left _ (List.mem_append_left _ (List.mem_append_right _ h)))) (by decide +kernel))) (goodIn_sub (fun _ h => List.mem_cons_of_mem _ (List.mem_append_left _ (List.mem_append_right _ h))) (by decide +kernel))) (goodIn_sub (fun _ h => List.mem_cons_of_mem _ (List.mem_append_right _ h)) (by decide +kernel))
set_option maxRecDepth 20000 in
theorem gL_off_X11_off : GoodIn wsL_off (wsV RL 67 RX11 yX11_off wsX11_off) := goodIn_app (goodIn_of _ (by decide +kernel)) ggL_off_X11_off
theorem dL_off_0 : decode cL_off 0 = .ok (.aload 4, 2) := by decide +kernel
theorem dL_off_2 : decode cL_off 2 = .ok (.iconst 0, 1) := by decide +kernel
theorem dL_off_3 : decode cL_off 3 = .ok (.aload_n 0, 1) := by decide +kernel
theorem dL_off_4 : decode cL_off 4 = .ok (.iload_n 1, 1) := by decide +kernel
theorem dL_off_5 : decode cL_off 5 = .ok (.iload_n 2, 1) := by decide +kernel
theorem dL_off_6 : decode cL_off 6 = .ok (.iload_n 3, 1) := by decide +kernel
theorem dL_off_7 : decode cL_off 7 = .ok (.invokevirtual 67, 3) := by decide +kernel
theorem dL_off_10 : decode cL_off 10 = .ok (.i2l, 1) := by decide +kernel
theorem dL_off_11 : decode cL_off 11 = .ok (.lastore, 1) := by decide +kernel
theorem dL_off_12 : decode cL_off 12 = .ok (.goto 15, 3) := by decide +kernel
theorem dL_off_15 : decode cL_off 15 = .ok (.astore 5, 2) := by decide +kernel
theorem dL_off_17 : decode cL_off 17 = .ok (.iconst 1, 1) := by decide +kernel
theorem dL_off_18 : decode cL_off 18 = .ok (.ireturn, 1) := by decide +kernel
theorem dL_off_19 : decode cL_off 19 = .ok (.astore 5, 2) := by decide +kernel
theorem dL_off_21 : decode cL_off 21 = .ok (.iconst 2, 1) := by decide +kernel
theorem dL_off_22 : decode cL_off 22 = .ok (.ireturn, 1) := by decide +kernel
theorem dL_off_23 : decode cL_off 23 = .ok (.astore 5, 2) := by decide +kernel
theorem dL_off_25 : decode cL_off 25 = .ok (.iconst 3, 1) := by decide +kernel
theorem dL_off_26 : decode cL_off 26 = .ok (.ireturn, 1) := by decide +kernel
theorem dL_off_27 : decode cL_off 27 = .ok (.iconst 0, 1) := by decide +kernel
theorem dL_off_28 : decode cL_off 28 = .ok (.ireturn, 1) := by decide +kernel
set_option maxRecDepth 20000 in
theorem ggL_unseen_X11_unseen : GoodIn wsL_unseen wsX11_unseen := goodIn_ca (goodIn_ca (goodIn_ca (goodIn_r _ [8, 9, 10, 11, 12, 13, 7, 14, 15, 16, 17, 18, 19, 20, 21, 22, 23, 24, 25, 26, 27, 28, 29, 30, 31, 32, 33, 34, 35, 36, 37, 38, 39, 40, 41, 42, 43, 44, 45, 46, 47, 48, 49, 50, 51, 52, 53, 54, 55, 56, 57, 58, 59, 60, 61, 62, 63, 64, 65, 66, 67, 68, 69, 70, 71, 72, 73, 74, 75, 76, 77, 78, 79, 80, 81, 82, 83, 84, 85, 86, 87, 88, 89, 90, 91, 92, 93, 94, 95, 96, 97, 98, 99, 100, 101, 102, 103, 104, 105, 106, 107, 108, 109, 110, 111, 112, 113, 114, 115, 116, 117, 118, 119, 120, 121, 122, 123, 124, 125, 126, 127, 128, 129, 130, 131, 132, 133, 134, 135, 136, 137, 138, 139, 140, 141, 142, 143, 144, 145, 146, 147, 148, 149, 150, 151, 152, 153, 154, 155, 156, 157, 158, 159, 160, 161, 162, 163, 164, 165, 166, 167, 168, 169, 170, 171, 172, 173, 174, 175, 176, 177, 178, 179] (by decide +kernel) (by decide +kernel)) (goodIn_sub (fun _ h => List.mem_cons_of_mem _ (List.mem_append_left _ (List.mem_append_left _ (List.mem_append_right _ h)))) (by decide +kernel))) (goodIn_sub (fun _ h => List.mem_cons_of_mem _ (List.mem_append_left _ (List.mem_append_right _ h))) (by decide +kernel))) (goodIn_sub (fun _ h => List.mem_cons_of_mem _ (List.mem_append_right _ h)) (by decide +kernel))
set_option maxRecDepth 20000 in
theorem gL_unseen_X11_unseen : GoodIn wsL_unseen (wsV RL 70 RX11 yX11_unseen wsX11_unseen) := goodIn_app (goodIn_of _ (by decide +kernel)) ggL_unseen_X11_unseen
theorem dL_unseen_0 : decode cL_unseen 0 = .ok (.aload 4, 2) := by decide +kernel
theorem dL_unseen_2 : decode cL_unseen 2 = .ok (.iconst 0, 1) := by decide +kernel
theorem dL_unseen_3 : decode cL_unseen 3 = .ok (.aload_n 0, 1) := by decide +kernel
theorem dL_unseen_4 : decode cL_unseen 4 = .ok (.iload_n 1, 1) := by decide +kernel
theorem dL_unseen_5 : decode cL_unseen 5 = .ok (.iload_n 2, 1) := by decide +kernel
theorem dL_unseen_6 : decode cL_unseen 6 = .ok (.iload_n 3, 1) := by decide +kernel
theorem dL_unseen_7 : decode cL_unseen 7 = .ok (.invokevirtual 70, 3) := by decide +kernel
theorem dL_unseen_10 : decode cL_unseen 10 = .ok (.i2l, 1) := by decide +kernel
theorem dL_unseen_11 : decode cL_unseen 11 = .ok (.lastore, 1) := by decide +kernel
theorem dL_unseen_12 : decode cL_unseen 12 = .ok (.goto 15, 3) := by decide +kernel
theorem dL_unseen_15 : decode cL_unseen 15 = .ok (.astore 5, 2) := by decide +kernel
theorem dL_unseen_17 : decode cL_unseen 17 = .ok (.iconst 1, 1) := by decide +kernel
theorem dL_unseen_18 : decode cL_unseen 18 = .ok (.ireturn, 1) := by decide +kernel
theorem dL_unseen_19 : decode cL_unseen 19 = .ok (.astore 5, 2) := by decide +kernel
theorem dL_unseen_21 : decode cL_unseen 21 = .ok (.iconst 2, 1) := by decide +kernel
theorem dL_unseen_22 : decode cL_unseen 22 = .ok (.ireturn, 1) := by decide +kernel
theorem dL_unseen_23 : decode cL_unseen 23 = .ok (.astore 5, 2) := by decide +kernel
theorem dL_unseen_25 : decode cL_unseen 25 = .ok (.iconst 3, 1) := by decide +kernel
theorem dL_unseen_26 : decode cL_unseen 26 = .ok (.ireturn, 1) := by decide +kernel
theorem dL_unseen_27 : decode cL_unseen 27 = .ok (.iconst 0, 1) := by decide +kernel
theorem dL_unseen_28 : decode cL_unseen 28 = .ok (.ireturn, 1) := by decide +kernel
set_option maxRecDepth 20000 in
theorem ggL_unlike_X11_unlike : GoodIn wsL_unlike wsX11_unlike := goodIn_ca (goodIn_ca (goodIn_r _ [7, 8, 9, 10, 11, 12, 13, 14, 15, 16, 17, 18, 6, 19, 20, 21, 22, 23, 24, 25, 26, 27, 28, 29, 30, 31, 32, 33, 34, 35, 36, 37, 38, 39, 40, 41, 42, 43, 44, 45, 46, 47, 48, 49, 50, 51, 52, 53, 54, 55, 56, 57, 58, 59, 60, 61, 62, 63, 64, 65, 66, 67, 68, 69, 70, 71, 72, 73, 74, 75, 76, 77, 78, 79, 80, 81, 82, 83, 84, 85, 86, 87, 88, 89, 90, 91, 92, 93, 94, 95, 96, 97, 98, 99, 100, 101, 102, 103, 104, 105, 106, 107, 108, 109, 110, 111, 112, 113, 114, 115, 116, 117, 118, 119, 120, 121, 122, 123, 124, 125, 126, 127, 128, 129, 130, 131, 132, 133] (by decide +kernel) (by decide +kernel)) (goodIn_sub (fun _ h => List.mem_cons_of_mem _ (List.mem_append_left _ (List.mem_append_right _ h))) (by decide +kernel))) (goodIn_sub (fun _ h => List.mem_cons_of_mem _ (List.mem_append_right _ h)) (by decide +kernel))
set_option maxRecDepth 20000 in
theorem gL_unlike_X11_unlike : GoodIn wsL_unlike (wsV RL 73 RX11 yX11_unlike wsX11_unlike) := goodIn_app (goodIn_of _ (by decide +kernel)) ggL_unlike_X11_unlike
theorem dL_unlike_0 : decode cL_unlike 0 = .ok (.aload_n 3, 1) := by decide +kernel
theorem dL_unlike_1 : decode cL_unlike 1 = .ok (.iconst 0, 1) := by decide +kernel
theorem dL_unlike_2 : decode cL_unlike 2 = .ok (.aload_n 0, 1) := by decide +kernel
theorem dL_unlike_3 : decode cL_unlike 3 = .ok (.iload_n 1, 1) := by decide +kernel
theorem dL_unlike_4 : decode cL_unlike 4 = .ok (.iload_n 2, 1) := by decide +kernel
theorem dL_unlike_5 : decode cL_unlike 5 = .ok (.invokevirtual 73, 3) := by decide +kernel
theorem dL_unlike_8 : decode cL_unlike 8 = .ok (.i2l, 1) := by decide +kernel
theorem dL_unlike_9 : decode cL_unlike 9 = .ok (.lastore, 1) := by decide +kernel
theorem dL_unlike_10 : decode cL_unlike 10 = .ok (.goto 11, 3) := by decide +kernel
theorem dL_unlike_13 : decode cL_unlike 13 = .ok (.astore 4, 2) := by decide +kernel
theorem dL_unlike_15 : decode cL_unlike 15 = .ok (.iconst 1, 1) := by decide +kernel
theorem dL_unlike_16 : decode cL_unlike 16 = .ok (.ireturn, 1) := by decide +kernel
theorem dL_unlike_17 : decode cL_unlike 17 = .ok (.astore 4, 2) := by decide +kernel
theorem dL_unlike_19 : decode cL_unlike 19 = .ok (.iconst 2, 1) := by decide +kernel
theorem dL_unlike_20 : decode cL_unlike 20 = .ok (.ireturn, 1) := by decide +kernel
theorem dL_unlike_21 : decode cL_unlike 21 = .ok (.iconst 0, 1) := by decide +kernel
theorem dL_unlike_22 : decode cL_unlike 22 = .ok (.ireturn, 1) := by decide +kernel
set_option maxRecDepth 20000 in
theorem ggL_digit_X11_digit : GoodIn wsL_digit wsX11_digit := goodIn_ca (goodIn_ca (goodIn_r _ [7, 8, 9, 10, 11, 12, 6, 13, 14, 15] (by decide +kernel) (by decide +kernel)) (goodIn_sub (fun _ h => List.mem_cons_of_mem _ (List.mem_append_left _ (List.mem_append_right _ h))) (by decide +kernel))) (goodIn_sub (fun _ h => List.mem_cons_of_mem _ (List.mem_append_right _ h)) (by decide +kernel))
set_option maxRecDepth 20000 in
theorem gL_digit_X11_digit : GoodIn wsL_digit (wsV RL 76 RX11 yX11_digit wsX11_digit) := goodIn_app (goodIn_of _ (by decide +kernel)) ggL_digit_X11_digit
theorem dL_digit_0 : decode cL_digit 0 = .ok (.aload_n 3, 1) := by decide +kernel
theorem dL_digit_1 : decode cL_digit 1 = .ok (.iconst 0, 1) := by decide +kernel
theorem dL_digit_2 : decode cL_digit 2 = .ok (.aload_n 0, 1) := by decide +kernel
theorem dL_digit_3 : decode cL_digit 3 = .ok (.iload_n 1, 1) := by decide +kernel
theorem dL_digit_4 : decode cL_digit 4 = .ok (.iload_n 2, 1) := by decide +kernel
theorem dL_digit_5 : decode cL_digit 5 = .ok (.invokevirtual 76, 3) := by decide +kernel
theorem dL_digit_8 : decode cL_digit 8 = .ok (.i2l, 1) := by decide +kernel
theorem dL_digit_9 : decode cL_digit 9 = .ok (.lastore, 1) := by decide +kernel
theorem dL_digit_10 : decode cL_digit 10 = .ok (.goto 11, 3) := by decide +kernel
theorem dL_digit_13 : decode cL_digit 13 = .ok (.astore 4, 2) := by decide +kernel
theorem dL_digit_15 : decode cL_digit 15 = .ok (.iconst 1, 1) := by decide +kernel
theorem dL_digit_16 : decode cL_digit 16 = .ok (.ireturn, 1) := by decide +kernel
theorem dL_digit_17 : decode cL_digit 17 = .ok (.astore 4, 2) := by decide +kernel
theorem dL_digit_19 : decode cL_digit 19 = .ok (.iconst 2, 1) := by decide +kernel
theorem dL_digit_20 : decode cL_digit 20 = .ok (.ireturn, 1) := by decide +kernel
theorem dL_digit_21 : decode cL_digit 21 = .ok (.iconst 0, 1) := by decide +kernel
theorem dL_digit_22 : decode cL_digit 22 = .ok (.ireturn, 1) := by decide +kernel
set_option maxRecDepth 20000 in
theorem ggL_law_X11_init : GoodIn wsL_law wsX11_init := goodIn_r _ [9, 10, 11, 12, 13, 14, 15, 16, 17, 18, 19, 20, 21, 22, 23, 24, 25, 26, 27, 28, 29, 30, 31, 32, 33, 34, 35, 36, 37, 38, 39, 40, 41, 42, 43, 44, 45, 46, 47, 48, 49, 50, 51, 52, 53, 54, 55, 56, 57, 58, 59, 60, 61, 62, 63, 64, 65, 66, 67, 68, 69, 70, 71, 72, 73, 74, 75, 76, 77, 78, 79, 80, 81, 82, 83, 84, 85, 86, 87, 88, 89, 90, 91, 92, 93, 94, 95, 96, 97, 98, 6, 99, 100, 101, 102, 103, 104, 105, 106, 107, 108, 109, 110, 111, 112, 113, 114, 115, 116, 117, 118, 119, 120, 121, 122, 123, 124, 125, 126, 127, 128, 129, 130, 131, 908, 909, 910, 911, 912, 913, 914, 915, 916, 917, 918, 919, 943, 944, 945, 946, 947, 948, 949, 950, 951, 952, 953, 954, 955, 956, 957, 958, 959, 960, 961, 962, 963, 964, 965, 966, 967, 968, 969, 970, 971, 972, 973, 974, 975, 976, 977, 978, 979, 980] (by decide +kernel) (by decide +kernel)
set_option maxRecDepth 20000 in
theorem gL_law_X11_init : GoodIn wsL_law (wsX11_init) := ggL_law_X11_init
set_option maxRecDepth 20000 in
theorem ggL_law_X12_init : GoodIn wsL_law wsX12_init := goodIn_r _ [134, 135, 11, 12, 59, 136, 137, 138, 139, 140, 141, 142, 143, 144, 145, 146, 147, 148, 149, 150, 151, 152, 153, 154, 155, 156, 920, 921, 922, 923, 924, 925, 926, 927, 928, 929, 930, 931, 932, 933, 934, 935, 936, 937, 938, 939, 940, 941, 942] (by decide +kernel) (by decide +kernel)
set_option maxRecDepth 20000 in
theorem gL_law_X12_init : GoodIn wsL_law (wsX12_init) := ggL_law_X12_init
set_option maxRecDepth 20000 in
theorem ggL_law_L_input : GoodIn wsL_law wsL_input := goodIn_ca (goodIn_ca (goodIn_r _ [160, 161, 162, 163, 164, 165, 2, 166, 167, 168, 169, 170, 171, 172, 173, 174, 14, 175, 176, 177, 54, 178, 179, 180, 181, 182, 183, 184, 185, 186, 187, 188, 189, 190, 191, 192, 122, 123, 124, 125, 193, 129, 130, 17, 131, 60, 908, 909, 910, 911, 912, 913, 914, 915, 916, 917, 918, 919, 972, 973, 974, 975, 976, 977, 978, 979, 943] (by decide +kernel) (by decide +kernel)) (goodIn_sub (fun _ h => List.mem_append_left _ (List.mem_append_left _ (List.mem_append_right _ h))) (by decide +kernel))) (goodIn_sub (fun _ h => List.mem_append_left _ (List.mem_append_right _ h)) (by decide +kernel))
set_option maxRecDepth 20000 in
theorem gL_law_L_input : GoodIn wsL_law (va_wsS RL 83 yL_input wsL_input) := goodIn_app (goodIn_of _ (by decide +kernel)) ggL_law_L_input
set_option maxRecDepth 20000 in
theorem ggL_law_X12_input : GoodIn wsL_law wsX12_input := goodIn_r _ [197, 140, 141, 198, 199, 200, 5, 201, 202, 203, 204, 205, 206, 207, 208, 136, 137, 138, 139, 920, 921, 922, 923, 924, 925, 926, 927, 928, 929, 930, 931, 932, 933, 934, 935, 936, 937, 938, 939, 940, 941, 942] (by decide +kernel) (by decide +kernel)
set_option maxRecDepth 20000 in
theorem gL_law_X12_input : GoodIn wsL_law (wsV RL 88 RX12 yX12_input wsX12_input) := goodIn_app (goodIn_of _ (by decide +kernel)) ggL_law_X12_input
set_option maxRecDepth 20000 in
theorem ggL_law_X12_thrown : GoodIn wsL_law wsX12_thrown := goodIn_r _ [212, 198, 920, 921, 922, 923, 924, 925, 926, 927, 928, 929, 930, 931, 932, 933, 934, 935, 936, 937, 938, 939, 940, 941, 942] (by decide +kernel) (by decide +kernel)
set_option maxRecDepth 20000 in
theorem gL_law_X12_thrown : GoodIn wsL_law (wsV RL 89 RX12 yX12_thrown wsX12_thrown) := goodIn_app (goodIn_of _ (by decide +kernel)) ggL_law_X12_thrown
set_option maxRecDepth 20000 in
theorem ggL_law_L_gate : GoodIn wsL_law wsL_gate := goodIn_ca (goodIn_ca (goodIn_r _ [215, 161, 162, 216, 217, 218, 2, 219, 167, 168, 169, 170, 171, 172, 173, 174, 14, 220, 221, 222, 223, 224, 225, 226, 227, 228, 54, 229, 179, 175, 176, 177, 178, 230, 231, 232, 233, 189, 190, 191, 192, 122, 123, 124, 125, 193, 129, 130, 17, 131, 60, 908, 909, 910, 911, 912, 913, 914, 915, 916, 917, 918, 919, 972, 973, 974, 975, 976, 977, 978, 979, 943] (by decide +kernel) (by decide +kernel)) (goodIn_sub (fun _ h => List.mem_append_left _ (List.mem_append_left _ (List.mem_append_right _ h))) (by decide +kernel))) (goodIn_sub (fun _ h => List.mem_append_left _ (List.mem_append_right _ h)) (by decide +kernel))
set_option maxRecDepth 20000 in
theorem gL_law_L_gate : GoodIn wsL_law (va_wsS RL 93 yL_gate wsL_gate) := goodIn_app (goodIn_of _ (by decide +kernel)) ggL_law_L_gate
set_option maxRecDepth 20000 in
theorem ggL_law_X12_gate : GoodIn wsL_law wsX12_gate := goodIn_r _ [237, 140, 198, 199, 200, 5, 201, 202, 203, 204, 238, 239, 240, 241, 205, 206, 207, 208, 136, 137, 138, 139, 141, 920, 921, 922, 923, 924, 925, 926, 927, 928, 929, 930, 931, 932, 933, 934, 935, 936, 937, 938, 939, 940, 941, 942] (by decide +kernel) (by decide +kernel)
set_option maxRecDepth 20000 in
theorem gL_law_X12_gate : GoodIn wsL_law (wsV RL 96 RX12 yX12_gate wsX12_gate) := goodIn_app (goodIn_of _ (by decide +kernel)) ggL_law_X12_gate
set_option maxRecDepth 20000 in
theorem ggL_law_L_out : GoodIn wsL_law wsL_out := goodIn_ca (goodIn_ca (goodIn_r _ [244, 161, 162, 245, 246, 247, 2, 248, 167, 168, 169, 170, 171, 172, 173, 174, 14, 223, 224, 225, 226, 227, 228, 54, 229, 179, 249, 250, 251, 252, 253, 254, 255, 256, 257, 126, 193, 129, 130, 17, 131, 60, 908, 909, 910, 911, 912, 913, 914, 915, 916, 917, 918, 919, 972, 973, 974, 975, 976, 977, 978, 979, 943] (by decide +kernel) (by decide +kernel)) (goodIn_sub (fun _ h => List.mem_append_left _ (List.mem_append_left _ (List.mem_append_right _ h))) (by decide +kernel))) (goodIn_sub (fun _ h => List.mem_append_left _ (List.mem_append_right _ h)) (by decide +kernel))
set_option maxRecDepth 20000 in
theorem gL_law_L_out : GoodIn wsL_law (va_wsS RL 97 yL_out wsL_out) := goodIn_app (goodIn_of _ (by decide +kernel)) ggL_law_L_out
set_option maxRecDepth 20000 in
theorem ggL_law_X12_out : GoodIn wsL_law wsX12_out := goodIn_r _ [261, 143, 198, 238, 239, 240, 5, 241, 140, 199, 200, 201, 202, 203, 204, 262, 263, 264, 265, 142, 920, 921, 922, 923, 924, 925, 926, 927, 928, 929, 930, 931, 932, 933, 934, 935, 936, 937, 938, 939, 940, 941, 942] (by decide +kernel) (by decide +kernel)
set_option maxRecDepth 20000 in
theorem gL_law_X12_out : GoodIn wsL_law (wsV RL 100 RX12 yX12_out wsX12_out) := goodIn_app (goodIn_of _ (by decide +kernel)) ggL_law_X12_out
set_option maxRecDepth 20000 in
theorem ggL_law_L_adder : GoodIn wsL_law wsL_adder := goodIn_ca (goodIn_ca (goodIn_ca (goodIn_r _ [268, 161, 269, 162, 270, 271, 272, 2, 273, 23, 169, 170, 171, 172, 173, 174, 14, 274, 275, 276, 277, 278, 279, 280, 281, 167, 168, 282, 283, 284, 54, 285, 179, 286, 287, 288, 22, 289, 290, 291, 292, 293, 294, 295, 296, 186, 187, 188, 184, 189, 190, 191, 192, 122, 123, 124, 125, 193, 129, 130, 17, 131, 60, 297, 298, 299, 300, 301, 231, 232, 233, 302, 255, 256, 257, 253, 126, 303, 304, 305, 306, 307, 308, 309, 310, 65, 66, 68, 311, 312, 313, 314, 315, 67, 69, 316, 317, 318, 319, 320, 321, 322, 323, 324, 325, 326, 327, 908, 909, 910, 911, 912, 913, 914, 915, 916, 917, 918, 919, 972, 973, 974, 975, 976, 977, 978, 979, 944, 945, 946, 947, 948, 949, 950, 951, 952, 953, 943] (by decide +kernel) (by decide +kernel)) (goodIn_sub (fun _ h => List.mem_append_left _ (List.mem_append_right _ h)) (by decide +kernel))) (goodIn_sub (fun _ h => List.mem_append_right _ h) (by decide +kernel))) (goodIn_sub (fun _ h => List.mem_append_left _ (List.mem_append_left _ (List.mem_append_right _ h))) (by decide +kernel))
set_option maxRecDepth 20000 in
theorem gL_law_L_adder : GoodIn wsL_law (va_wsS RL 101 yL_adder wsL_adder) := goodIn_app (goodIn_of _ (by decide +kernel)) ggL_law_L_adder
set_option maxRecDepth 20000 in
theorem ggL_law_X12_adder : GoodIn wsL_law wsX12_adder := goodIn_r _ [331, 140, 198, 199, 200, 5, 201, 202, 203, 204, 332, 333, 334, 335, 205, 206, 207, 208, 136, 137, 138, 139, 141, 336, 337, 338, 339, 155, 340, 341, 342, 343, 344, 345, 346, 347, 348, 262, 263, 264, 265, 142, 143, 349, 350, 351, 352, 151, 152, 153, 154, 920, 921, 922, 923, 924, 925, 926, 927, 928, 929, 930, 931, 932, 933, 934, 935, 936, 937, 938, 939, 940, 941, 942] (by decide +kernel) (by decide +kernel)
set_option maxRecDepth 20000 in
theorem gL_law_X12_adder : GoodIn wsL_law (wsV RL 104 RX12 yX12_adder wsX12_adder) := goodIn_app (goodIn_of _ (by decide +kernel)) ggL_law_X12_adder
set_option maxRecDepth 20000 in
theorem ggL_law_L_multiplier : GoodIn wsL_law wsL_multiplier := goodIn_ca (goodIn_ca (goodIn_ca (goodIn_r _ [355, 161, 269, 162, 356, 357, 358, 2, 359, 23, 169, 170, 171, 172, 173, 174, 14, 274, 275, 276, 277, 278, 279, 280, 281, 167, 168, 282, 283, 284, 54, 285, 179, 360, 361, 362, 22, 363, 70, 71, 364, 292, 293, 294, 295, 296, 186, 187, 188, 184, 189, 190, 191, 192, 122, 123, 124, 125, 193, 129, 130, 17, 131, 60, 301, 231, 232, 233, 311, 327, 321, 322, 323, 365, 366, 367, 368, 302, 255, 256, 257, 253, 126, 369, 370, 371, 372, 291, 290, 297, 298, 299, 300, 303, 304, 305, 306, 908, 909, 910, 911, 912, 913, 914, 915, 916, 917, 918, 919, 972, 973, 974, 975, 976, 977, 978, 979, 944, 945, 946, 947, 948, 949, 950, 951, 952, 953, 943] (by decide +kernel) (by decide +kernel)) (goodIn_sub (fun _ h => List.mem_append_left _ (List.mem_append_right _ h)) (by decide +kernel))) (goodIn_sub (fun _ h => List.mem_append_right _ h) (by decide +kernel))) (goodIn_sub (fun _ h => List.mem_append_left _ (List.mem_append_left _ (List.mem_append_right _ h))) (by decide +kernel))
set_option maxRecDepth 20000 in
theorem gL_law_L_multiplier : GoodIn wsL_law (va_wsS RL 105 yL_multiplier wsL_multiplier) := goodIn_app (goodIn_of _ (by decide +kernel)) ggL_law_L_multiplier
set_option maxRecDepth 20000 in
theorem ggL_law_X12_multiplier : GoodIn wsL_law wsX12_multiplier := goodIn_r _ [376, 140, 198, 156, 155, 340, 199, 200, 5, 201, 202, 203, 204, 332, 333, 334, 335, 205, 206, 207, 208, 136, 137, 138, 139, 141, 262, 263, 264, 265, 142, 143, 341, 342, 343, 344, 345, 346, 347, 348, 920, 921, 922, 923, 924, 925, 926, 927, 928, 929, 930, 931, 932, 933, 934, 935, 936, 937, 938, 939, 940, 941, 942] (by decide +kernel) (by decide +kernel)
set_option maxRecDepth 20000 in
theorem gL_law_X12_multiplier : GoodIn wsL_law (wsV RL 107 RX12 yX12_multiplier wsX12_multiplier) := goodIn_app (goodIn_of _ (by decide +kernel)) ggL_law_X12_multiplier
set_option maxRecDepth 20000 in
theorem ggL_law_L_clear : GoodIn wsL_law wsL_clear := goodIn_ca (goodIn_r _ [379, 161, 380, 381, 382, 2, 383, 169, 170, 171, 172, 173, 174, 14, 282, 283, 284, 54, 285, 179, 384, 385, 386, 387, 184, 253, 908, 909, 910, 911, 912, 913, 914, 915, 916, 917, 918, 919, 972, 973, 974, 975, 976, 977, 978, 979] (by decide +kernel) (by decide +kernel)) (goodIn_sub (fun _ h => List.mem_append_left _ (List.mem_append_right _ h)) (by decide +kernel))
set_option maxRecDepth 20000 in
theorem gL_law_L_clear : GoodIn wsL_law (va_wsS RL 108 yL_clear wsL_clear) := goodIn_app (goodIn_of _ (by decide +kernel)) ggL_law_L_clear
set_option maxRecDepth 20000 in
theorem ggL_law_X12_clear : GoodIn wsL_law wsX12_clear := goodIn_r _ [391, 198, 140, 141, 143, 199, 200, 5, 201, 202, 203, 204, 920, 921, 922, 923, 924, 925, 926, 927, 928, 929, 930, 931, 932, 933, 934, 935, 936, 937, 938, 939, 940, 941, 942] (by decide +kernel) (by decide +kernel)
set_option maxRecDepth 20000 in
theorem gL_law_X12_clear : GoodIn wsL_law (wsV RL 110 RX12 yX12_clear wsX12_clear) := goodIn_app (goodIn_of _ (by decide +kernel)) ggL_law_X12_clear
set_option maxRecDepth 20000 in
theorem ggL_law_L_cost : GoodIn wsL_law wsL_cost := goodIn_ca (goodIn_ca (goodIn_r _ [394, 161, 269, 395, 396, 397, 2, 398, 18, 19, 220, 221, 222, 173, 174, 274, 275, 276, 277, 278, 399, 321, 322, 17, 323, 60, 128, 129, 130, 131, 908, 909, 910, 911, 912, 913, 914, 915, 916, 917, 918, 919, 943] (by decide +kernel) (by decide +kernel)) (goodIn_sub (fun _ h => List.mem_append_left _ (List.mem_append_right _ h)) (by decide +kernel))) (goodIn_sub (fun _ h => List.mem_append_right _ h) (by decide +kernel))
set_option maxRecDepth 20000 in
theorem gL_law_L_cost : GoodIn wsL_law (va_wsS RL 111 yL_cost wsL_cost) := goodIn_app (goodIn_of _ (by decide +kernel)) ggL_law_L_cost
set_option maxRecDepth 20000 in
theorem ggL_law_X12_cost : GoodIn wsL_law wsX12_cost := goodIn_r _ [403, 198, 144, 145, 202, 203, 5, 204, 920, 921, 922, 923, 924, 925, 926, 927, 928, 929, 930, 931, 932, 933, 934, 935, 936, 937, 938, 939, 940, 941, 942] (by decide +kernel) (by decide +kernel)
set_option maxRecDepth 20000 in
theorem gL_law_X12_cost : GoodIn wsL_law (wsV RL 113 RX12 yX12_cost wsX12_cost) := goodIn_app (goodIn_of _ (by decide +kernel)) ggL_law_X12_cost
set_option maxRecDepth 20000 in
theorem ggL_law_L_stick : GoodIn wsL_law wsL_stick := goodIn_ca (goodIn_ca (goodIn_r _ [406, 161, 269, 407, 408, 409, 2, 410, 169, 170, 171, 172, 173, 174, 14, 223, 224, 225, 226, 227, 228, 54, 229, 179, 274, 275, 276, 277, 278, 411, 412, 413, 414, 125, 415, 321, 322, 17, 323, 60, 416, 417, 418, 419, 193, 129, 130, 131, 908, 909, 910, 911, 912, 913, 914, 915, 916, 917, 918, 919, 972, 973, 974, 975, 976, 977, 978, 979, 943] (by decide +kernel) (by decide +kernel)) (goodIn_sub (fun _ h => List.mem_append_left _ (List.mem_append_right _ h)) (by decide +kernel))) (goodIn_sub (fun _ h => List.mem_append_right _ h) (by decide +kernel))
set_option maxRecDepth 20000 in
theorem gL_law_L_stick : GoodIn wsL_law (va_wsS RL 114 yL_stick wsL_stick) := goodIn_app (goodIn_of _ (by decide +kernel)) ggL_law_L_stick
set_option maxRecDepth 20000 in
theorem ggL_law_X12_stick : GoodIn wsL_law wsX12_stick := goodIn_r _ [423, 198, 139, 238, 239, 240, 5, 241, 140, 199, 200, 201, 202, 203, 204, 920, 921, 922, 923, 924, 925, 926, 927, 928, 929, 930, 931, 932, 933, 934, 935, 936, 937, 938, 939, 940, 941, 942] (by decide +kernel) (by decide +kernel)
set_option maxRecDepth 20000 in
theorem gL_law_X12_stick : GoodIn wsL_law (wsV RL 116 RX12 yX12_stick wsX12_stick) := goodIn_app (goodIn_of _ (by decide +kernel)) ggL_law_X12_stick
set_option maxRecDepth 20000 in
theorem ggL_law_L_bit : GoodIn wsL_law wsL_bit := goodIn_ca (goodIn_ca (goodIn_r _ [426, 161, 269, 427, 428, 429, 2, 430, 431, 35, 169, 170, 171, 172, 173, 174, 14, 223, 224, 225, 226, 227, 228, 54, 229, 179, 274, 275, 276, 277, 278, 432, 433, 434, 34, 435, 436, 437, 438, 439, 93, 94, 440, 283, 284, 285, 441, 442, 443, 444, 122, 415, 321, 322, 17, 323, 60, 445, 446, 447, 448, 449, 450, 451, 452, 453, 454, 455, 456, 457, 458, 459, 460, 123, 461, 462, 463, 92, 464, 99, 465, 466, 467, 468, 124, 469, 470, 471, 472, 412, 413, 414, 125, 473, 474, 475, 476, 477, 250, 251, 252, 253, 478, 479, 480, 481, 126, 482, 483, 484, 485, 908, 909, 910, 911, 912, 913, 914, 915, 916, 917, 918, 919, 972, 973, 974, 975, 976, 977, 978, 979, 959, 960, 943, 980] (by decide +kernel) (by decide +kernel)) (goodIn_sub (fun _ h => List.mem_append_left _ (List.mem_append_right _ h)) (by decide +kernel))) (goodIn_sub (fun _ h => List.mem_append_right _ h) (by decide +kernel))
set_option maxRecDepth 20000 in
theorem gL_law_L_bit : GoodIn wsL_law (va_wsS RL 117 yL_bit wsL_bit) := goodIn_app (goodIn_of _ (by decide +kernel)) ggL_law_L_bit
set_option maxRecDepth 20000 in
theorem ggL_law_X12_bit : GoodIn wsL_law wsX12_bit := goodIn_r _ [489, 198, 146, 238, 239, 240, 5, 241, 140, 199, 200, 201, 202, 203, 204, 490, 491, 492, 493, 494, 495, 496, 497, 136, 137, 138, 139, 498, 499, 500, 920, 921, 922, 923, 924, 925, 926, 927, 928, 929, 930, 931, 932, 933, 934, 935, 936, 937, 938, 939, 940, 941, 942] (by decide +kernel) (by decide +kernel)
set_option maxRecDepth 20000 in
theorem gL_law_X12_bit : GoodIn wsL_law (wsV RL 119 RX12 yX12_bit wsX12_bit) := goodIn_app (goodIn_of _ (by decide +kernel)) ggL_law_X12_bit
set_option maxRecDepth 20000 in
theorem ggL_law_L_value : GoodIn wsL_law wsL_value := goodIn_ca (goodIn_ca (goodIn_r _ [503, 161, 269, 504, 505, 506, 2, 507, 431, 35, 169, 170, 171, 172, 173, 174, 14, 274, 275, 276, 277, 278, 432, 433, 434, 34, 435, 436, 437, 438, 439, 93, 94, 440, 283, 284, 54, 285, 179, 441, 442, 443, 444, 122, 415, 321, 322, 17, 323, 60, 445, 446, 447, 448, 449, 450, 451, 452, 453, 454, 455, 456, 457, 458, 459, 460, 123, 461, 462, 463, 92, 464, 99, 465, 466, 467, 468, 124, 469, 470, 471, 472, 412, 413, 414, 125, 473, 474, 475, 476, 477, 250, 251, 252, 253, 478, 479, 480, 481, 126, 508, 509, 510, 511, 908, 909, 910, 911, 912, 913, 914, 915, 916, 917, 918, 919, 959, 960, 972, 973, 974, 975, 976, 977, 978, 979, 943, 980] (by decide +kernel) (by decide +kernel)) (goodIn_sub (fun _ h => List.mem_append_left _ (List.mem_append_right _ h)) (by decide +kernel))) (goodIn_sub (fun _ h => List.mem_append_right _ h) (by decide +kernel))
set_option maxRecDepth 20000 in
theorem gL_law_L_value : GoodIn wsL_law (va_wsS RL 120 yL_value wsL_value) := goodIn_app (goodIn_of _ (by decide +kernel)) ggL_law_L_value
set_option maxRecDepth 20000 in
theorem ggL_law_X12_value : GoodIn wsL_law wsX12_value := goodIn_r _ [515, 516, 517, 518, 5, 519, 198, 199, 200, 201, 202, 203, 204, 490, 491, 492, 493, 520, 521, 522, 523, 143, 146, 142, 494, 495, 496, 497, 140, 136, 137, 138, 139, 498, 499, 500, 920, 921, 922, 923, 924, 925, 926, 927, 928, 929, 930, 931, 932, 933, 934, 935, 936, 937, 938, 939, 940, 941, 942] (by decide +kernel) (by decide +kernel)
set_option maxRecDepth 20000 in
theorem gL_law_X12_value : GoodIn wsL_law (wsV RL 122 RX12 yX12_value wsX12_value) := goodIn_app (goodIn_of _ (by decide +kernel)) ggL_law_X12_value
set_option maxRecDepth 20000 in
theorem ggL_law_L_valueAnew : GoodIn wsL_law wsL_valueAnew := goodIn_ca (goodIn_ca (goodIn_r _ [526, 161, 269, 527, 528, 529, 2, 530, 431, 27, 169, 170, 171, 172, 173, 174, 14, 274, 275, 276, 277, 278, 249, 250, 251, 54, 252, 253, 531, 479, 480, 481, 126, 415, 321, 322, 17, 323, 60, 532, 533, 534, 26, 535, 77, 78, 536, 537, 538, 539, 540, 129, 130, 131, 541, 542, 543, 544, 545, 283, 284, 285, 179, 546, 547, 442, 443, 444, 122, 548, 458, 459, 460, 123, 549, 466, 467, 468, 124, 550, 551, 552, 553, 554, 412, 413, 414, 125, 555, 454, 455, 456, 469, 470, 471, 908, 909, 910, 911, 912, 913, 914, 915, 916, 917, 918, 919, 972, 973, 974, 975, 976, 977, 978, 979, 943, 954, 955, 956] (by decide +kernel) (by decide +kernel)) (goodIn_sub (fun _ h => List.mem_append_left _ (List.mem_append_right _ h)) (by decide +kernel))) (goodIn_sub (fun _ h => List.mem_append_right _ h) (by decide +kernel))
set_option maxRecDepth 20000 in
theorem gL_law_L_valueAnew : GoodIn wsL_law (va_wsS RL 123 yL_valueAnew wsL_valueAnew) := goodIn_app (goodIn_of _ (by decide +kernel)) ggL_law_L_valueAnew
set_option maxRecDepth 20000 in
theorem ggL_law_X12_valueAnew : GoodIn wsL_law wsX12_valueAnew := goodIn_r _ [559, 516, 517, 518, 5, 519, 198, 199, 200, 201, 202, 203, 204, 490, 491, 492, 493, 520, 521, 522, 523, 143, 146, 142, 494, 495, 496, 497, 140, 136, 137, 138, 139, 498, 499, 500, 920, 921, 922, 923, 924, 925, 926, 927, 928, 929, 930, 931, 932, 933, 934, 935, 936, 937, 938, 939, 940, 941, 942] (by decide +kernel) (by decide +kernel)
set_option maxRecDepth 20000 in
theorem gL_law_X12_valueAnew : GoodIn wsL_law (wsV RL 125 RX12 yX12_valueAnew wsX12_valueAnew) := goodIn_app (goodIn_of _ (by decide +kernel)) ggL_law_X12_valueAnew
set_option maxRecDepth 20000 in
theorem ggL_law_L_ofNet : GoodIn wsL_law wsL_ofNet := goodIn_ca (goodIn_ca (goodIn_r _ [562, 161, 269, 563, 564, 565, 2, 566, 31, 18, 27, 169, 170, 171, 172, 173, 174, 14, 274, 275, 276, 277, 278, 282, 283, 284, 54, 285, 179, 180, 181, 182, 183, 184, 249, 250, 251, 252, 253, 567, 568, 569, 570, 19, 571, 442, 443, 444, 122, 415, 321, 322, 17, 323, 60, 572, 454, 455, 456, 399, 573, 574, 575, 30, 576, 577, 85, 578, 579, 580, 581, 582, 583, 584, 458, 459, 460, 123, 585, 586, 466, 467, 468, 124, 587, 588, 129, 130, 131, 589, 590, 591, 592, 593, 594, 595, 596, 597, 598, 479, 480, 481, 126, 599, 600, 601, 26, 602, 79, 603, 536, 537, 538, 539, 545, 547, 548, 604, 605, 606, 607, 320, 608, 549, 555, 609, 610, 546, 611, 612, 613, 614, 77, 540, 541, 542, 543, 544, 908, 909, 910, 911, 912, 913, 914, 915, 916, 917, 918, 919, 972, 973, 974, 975, 976, 977, 978, 979, 943, 957, 958, 954, 955, 956] (by decide +kernel) (by decide +kernel)) (goodIn_sub (fun _ h => List.mem_append_left _ (List.mem_append_right _ h)) (by decide +kernel))) (goodIn_sub (fun _ h => List.mem_append_right _ h) (by decide +kernel))
set_option maxRecDepth 20000 in
theorem gL_law_L_ofNet : GoodIn wsL_law (va_wsS RL 126 yL_ofNet wsL_ofNet) := goodIn_app (goodIn_of _ (by decide +kernel)) ggL_law_L_ofNet
set_option maxRecDepth 20000 in
theorem ggL_law_X12_ofNet : GoodIn wsL_law wsX12_ofNet := goodIn_r _ [618, 198, 140, 141, 143, 199, 200, 5, 201, 202, 203, 204, 619, 620, 621, 622, 136, 145, 623, 624, 625, 626, 147, 142, 627, 628, 629, 630, 137, 138, 144, 631, 632, 633, 634, 148, 635, 636, 637, 638, 920, 921, 922, 923, 924, 925, 926, 927, 928, 929, 930, 931, 932, 933, 934, 935, 936, 937, 938, 939, 940, 941, 942] (by decide +kernel) (by decide +kernel)
set_option maxRecDepth 20000 in
theorem gL_law_X12_ofNet : GoodIn wsL_law (wsV RL 128 RX12 yX12_ofNet wsX12_ofNet) := goodIn_app (goodIn_of _ (by decide +kernel)) ggL_law_X12_ofNet
set_option maxRecDepth 20000 in
theorem ggL_law_L_time : GoodIn wsL_law wsL_time := goodIn_ca (goodIn_r _ [641, 161, 642, 643, 644, 2, 645, 31, 18, 169, 170, 171, 172, 173, 174, 14, 223, 224, 225, 226, 227, 228, 54, 229, 179, 573, 574, 575, 30, 576, 577, 85, 578, 579, 580, 581, 582, 283, 284, 285, 583, 442, 443, 444, 122, 415, 321, 322, 17, 323, 60, 584, 458, 459, 460, 123, 585, 586, 466, 467, 468, 124, 587, 454, 455, 456, 588, 129, 130, 131, 646, 647, 648, 649, 908, 909, 910, 911, 912, 913, 914, 915, 916, 917, 918, 919, 972, 973, 974, 975, 976, 977, 978, 979, 957, 958, 943] (by decide +kernel) (by decide +kernel)) (goodIn_sub (fun _ h => List.mem_append_left _ (List.mem_append_right _ h)) (by decide +kernel))
set_option maxRecDepth 20000 in
theorem gL_law_L_time : GoodIn wsL_law (va_wsS RL 129 yL_time wsL_time) := goodIn_app (goodIn_of _ (by decide +kernel)) ggL_law_L_time
set_option maxRecDepth 20000 in
theorem ggL_law_X12_time : GoodIn wsL_law wsX12_time := goodIn_r _ [653, 198, 147, 238, 239, 240, 5, 241, 140, 199, 200, 201, 202, 203, 204, 627, 628, 629, 630, 136, 137, 138, 144, 920, 921, 922, 923, 924, 925, 926, 927, 928, 929, 930, 931, 932, 933, 934, 935, 936, 937, 938, 939, 940, 941, 942] (by decide +kernel) (by decide +kernel)
set_option maxRecDepth 20000 in
theorem gL_law_X12_time : GoodIn wsL_law (wsV RL 131 RX12 yX12_time wsX12_time) := goodIn_app (goodIn_of _ (by decide +kernel)) ggL_law_X12_time
set_option maxRecDepth 20000 in
theorem ggL_law_L_path : GoodIn wsL_law wsL_path := goodIn_ca (goodIn_r _ [656, 161, 657, 658, 659, 2, 660, 173, 174, 31, 18, 169, 170, 171, 172, 14, 573, 574, 575, 30, 576, 577, 85, 578, 579, 580, 581, 582, 283, 284, 54, 285, 179, 583, 442, 443, 444, 122, 415, 321, 322, 17, 323, 60, 584, 458, 459, 460, 123, 585, 586, 466, 467, 468, 124, 587, 454, 455, 456, 588, 129, 130, 131, 661, 594, 595, 596, 597, 250, 251, 252, 253, 598, 479, 480, 481, 126, 662, 663, 664, 665, 908, 909, 910, 911, 912, 913, 914, 915, 916, 917, 918, 919, 957, 958, 972, 973, 974, 975, 976, 977, 978, 979, 943] (by decide +kernel) (by decide +kernel)) (goodIn_sub (fun _ h => List.mem_append_left _ (List.mem_append_right _ h)) (by decide +kernel))
set_option maxRecDepth 20000 in
theorem gL_law_L_path : GoodIn wsL_law (va_wsS RL 132 yL_path wsL_path) := goodIn_app (goodIn_of _ (by decide +kernel)) ggL_law_L_path
set_option maxRecDepth 20000 in
theorem ggL_law_X12_path : GoodIn wsL_law wsX12_path := goodIn_r _ [669, 198, 143, 142, 147, 136, 137, 144, 138, 199, 200, 5, 201, 202, 203, 204, 623, 624, 625, 626, 627, 628, 629, 630, 140, 920, 921, 922, 923, 924, 925, 926, 927, 928, 929, 930, 931, 932, 933, 934, 935, 936, 937, 938, 939, 940, 941, 942] (by decide +kernel) (by decide +kernel)
set_option maxRecDepth 20000 in
theorem gL_law_X12_path : GoodIn wsL_law (wsV RL 134 RX12 yX12_path wsX12_path) := goodIn_app (goodIn_of _ (by decide +kernel)) ggL_law_X12_path
set_option maxRecDepth 20000 in
theorem ggL_law_L_changes : GoodIn wsL_law wsL_changes := goodIn_ca (goodIn_ca (goodIn_r _ [672, 161, 269, 673, 674, 675, 2, 676, 44, 18, 35, 36, 31, 40, 169, 170, 171, 172, 173, 174, 14, 677, 678, 679, 431, 274, 275, 276, 277, 278, 680, 681, 682, 683, 573, 574, 575, 30, 576, 577, 85, 578, 579, 580, 581, 582, 283, 284, 54, 285, 179, 583, 442, 443, 444, 122, 415, 321, 322, 17, 323, 60, 584, 458, 459, 460, 123, 585, 586, 466, 467, 468, 124, 587, 454, 455, 456, 588, 129, 130, 131, 432, 433, 434, 34, 435, 436, 437, 438, 439, 93, 94, 440, 441, 445, 446, 447, 448, 449, 450, 451, 452, 453, 457, 461, 462, 463, 92, 464, 99, 465, 469, 470, 471, 472, 412, 413, 414, 125, 473, 474, 475, 476, 477, 250, 251, 252, 253, 478, 479, 480, 481, 126, 684, 685, 686, 39, 687, 688, 689, 690, 691, 692, 693, 694, 695, 696, 697, 43, 698, 699, 700, 701, 702, 703, 704, 705, 706, 707, 708, 709, 710, 711, 712, 713, 107, 714, 715, 716, 717, 718, 719, 720, 721, 722, 723, 724, 725, 726, 727, 728, 729, 730, 731, 732, 733, 734, 735, 736, 737, 738, 739, 740, 741, 742, 743, 744, 745, 746, 747, 748, 749, 750, 751, 752, 753, 754, 908, 909, 910, 911, 912, 913, 914, 915, 916, 917, 918, 919, 957, 958, 972, 973, 974, 975, 976, 977, 978, 979, 943, 959, 960, 980, 961, 962, 963, 964, 965] (by decide +kernel) (by decide +kernel)) (goodIn_sub (fun _ h => List.mem_append_left _ (List.mem_append_right _ h)) (by decide +kernel))) (goodIn_sub (fun _ h => List.mem_append_right _ h) (by decide +kernel))
set_option maxRecDepth 20000 in
theorem gL_law_L_changes : GoodIn wsL_law (va_wsS RL 135 yL_changes wsL_changes) := goodIn_app (goodIn_of _ (by decide +kernel)) ggL_law_L_changes
set_option maxRecDepth 20000 in
theorem ggL_law_X12_changes : GoodIn wsL_law wsX12_changes := goodIn_r _ [758, 759, 760, 761, 5, 762, 198, 140, 149, 146, 148, 143, 142, 136, 144, 137, 150, 138, 139, 199, 200, 201, 202, 203, 204, 490, 491, 492, 493, 494, 495, 496, 497, 498, 499, 500, 627, 628, 629, 630, 147, 920, 921, 922, 923, 924, 925, 926, 927, 928, 929, 930, 931, 932, 933, 934, 935, 936, 937, 938, 939, 940, 941, 942] (by decide +kernel) (by decide +kernel)
set_option maxRecDepth 20000 in
theorem gL_law_X12_changes : GoodIn wsL_law (wsV RL 137 RX12 yX12_changes wsX12_changes) := goodIn_app (goodIn_of _ (by decide +kernel)) ggL_law_X12_changes
set_option maxRecDepth 20000 in
theorem ggL_law_L_changesAnew : GoodIn wsL_law wsL_changesAnew := goodIn_ca (goodIn_ca (goodIn_r _ [765, 161, 269, 766, 767, 768, 2, 769, 48, 35, 31, 18, 36, 40, 169, 170, 171, 172, 173, 174, 14, 677, 678, 679, 431, 274, 275, 276, 277, 278, 680, 681, 682, 683, 573, 574, 575, 30, 576, 577, 85, 578, 579, 580, 581, 582, 283, 284, 54, 285, 179, 583, 442, 443, 444, 122, 415, 321, 322, 17, 323, 60, 584, 458, 459, 460, 123, 585, 586, 466, 467, 468, 124, 587, 454, 455, 456, 588, 129, 130, 131, 432, 433, 434, 34, 435, 436, 437, 438, 439, 93, 94, 440, 441, 445, 446, 447, 448, 449, 450, 451, 452, 453, 457, 461, 462, 463, 92, 464, 99, 465, 469, 470, 471, 472, 412, 413, 414, 125, 473, 474, 475, 476, 477, 250, 251, 252, 253, 478, 479, 480, 481, 126, 684, 685, 686, 39, 687, 688, 689, 690, 770, 771, 772, 47, 773, 113, 774, 775, 483, 484, 485, 776, 691, 692, 693, 694, 777, 778, 779, 780, 781, 782, 783, 784, 785, 786, 787, 788, 789, 790, 791, 792, 793, 794, 795, 796, 797, 798, 729, 730, 731, 799, 747, 748, 749, 750, 751, 752, 753, 754, 908, 909, 910, 911, 912, 913, 914, 915, 916, 917, 918, 919, 957, 958, 972, 973, 974, 975, 976, 977, 978, 979, 943, 959, 960, 980, 961, 962, 963, 966] (by decide +kernel) (by decide +kernel)) (goodIn_sub (fun _ h => List.mem_append_left _ (List.mem_append_right _ h)) (by decide +kernel))) (goodIn_sub (fun _ h => List.mem_append_right _ h) (by decide +kernel))
set_option maxRecDepth 20000 in
theorem gL_law_L_changesAnew : GoodIn wsL_law (va_wsS RL 138 yL_changesAnew wsL_changesAnew) := goodIn_app (goodIn_of _ (by decide +kernel)) ggL_law_L_changesAnew
set_option maxRecDepth 20000 in
theorem ggL_law_X12_changesAnew : GoodIn wsL_law wsX12_changesAnew := goodIn_r _ [803, 759, 760, 761, 5, 762, 198, 140, 149, 146, 148, 143, 142, 136, 144, 137, 150, 138, 139, 199, 200, 201, 202, 203, 204, 490, 491, 492, 493, 494, 495, 496, 497, 498, 499, 500, 627, 628, 629, 630, 147, 920, 921, 922, 923, 924, 925, 926, 927, 928, 929, 930, 931, 932, 933, 934, 935, 936, 937, 938, 939, 940, 941, 942] (by decide +kernel) (by decide +kernel)
set_option maxRecDepth 20000 in
theorem gL_law_X12_changesAnew : GoodIn wsL_law (wsV RL 140 RX12 yX12_changesAnew wsX12_changesAnew) := goodIn_app (goodIn_of _ (by decide +kernel)) ggL_law_X12_changesAnew
set_option maxRecDepth 20000 in
theorem ggL_law_L_off : GoodIn wsL_law wsL_off := goodIn_ca (goodIn_ca (goodIn_ca (goodIn_r _ [806, 161, 269, 162, 807, 808, 809, 2, 810, 52, 35, 169, 170, 171, 172, 173, 174, 14, 274, 275, 276, 277, 278, 811, 812, 813, 167, 168, 180, 181, 182, 54, 183, 184, 814, 815, 816, 51, 817, 818, 700, 580, 701, 819, 820, 821, 822, 823, 824, 825, 826, 827, 828, 829, 830, 831, 832, 833, 834, 34, 835, 436, 437, 438, 439, 93, 94, 440, 283, 284, 285, 179, 441, 442, 443, 444, 122, 415, 321, 322, 17, 323, 60, 445, 446, 447, 448, 449, 450, 451, 452, 453, 454, 455, 456, 457, 458, 459, 460, 123, 461, 462, 463, 92, 464, 99, 465, 466, 467, 468, 124, 469, 470, 471, 472, 412, 413, 414, 125, 473, 474, 475, 476, 477, 250, 251, 252, 253, 478, 479, 480, 481, 126, 836, 509, 510, 511, 837, 838, 839, 840, 841, 842, 843, 844, 579, 581, 845, 846, 847, 848, 908, 909, 910, 911, 912, 913, 914, 915, 916, 917, 918, 919, 972, 973, 974, 975, 976, 977, 978, 979, 967, 968, 969, 970, 971, 959, 960, 943, 980] (by decide +kernel) (by decide +kernel)) (goodIn_sub (fun _ h => List.mem_append_left _ (List.mem_append_right _ h)) (by decide +kernel))) (goodIn_sub (fun _ h => List.mem_append_right _ h) (by decide +kernel))) (goodIn_sub (fun _ h => List.mem_append_left _ (List.mem_append_left _ (List.mem_append_right _ h))) (by decide +kernel))
set_option maxRecDepth 20000 in
theorem gL_law_L_off : GoodIn wsL_law (va_wsS RL 141 yL_off wsL_off) := goodIn_app (goodIn_of _ (by decide +kernel)) ggL_law_L_off
set_option maxRecDepth 20000 in
theorem ggL_law_X12_off : GoodIn wsL_law wsX12_off := goodIn_r _ [852, 198, 141, 199, 200, 5, 201, 202, 203, 204, 853, 854, 855, 856, 857, 858, 859, 520, 521, 522, 523, 143, 146, 142, 494, 495, 496, 497, 140, 136, 137, 138, 139, 498, 499, 500, 860, 861, 862, 863, 920, 921, 922, 923, 924, 925, 926, 927, 928, 929, 930, 931, 932, 933, 934, 935, 936, 937, 938, 939, 940, 941, 942] (by decide +kernel) (by decide +kernel)
set_option maxRecDepth 20000 in
theorem gL_law_X12_off : GoodIn wsL_law (wsV RL 143 RX12 yX12_off wsX12_off) := goodIn_app (goodIn_of _ (by decide +kernel)) ggL_law_X12_off
set_option maxRecDepth 20000 in
theorem ggL_law_L_unseen : GoodIn wsL_law wsL_unseen := goodIn_ca (goodIn_ca (goodIn_ca (goodIn_r _ [866, 161, 269, 162, 867, 868, 869, 2, 870, 52, 35, 169, 170, 171, 172, 173, 174, 14, 274, 275, 276, 277, 278, 811, 812, 813, 167, 168, 180, 181, 182, 54, 183, 184, 814, 815, 816, 51, 817, 818, 700, 580, 701, 819, 820, 821, 822, 823, 824, 825, 826, 827, 828, 829, 830, 831, 832, 833, 834, 34, 835, 436, 437, 438, 439, 93, 94, 440, 283, 284, 285, 179, 441, 442, 443, 444, 122, 415, 321, 322, 17, 323, 60, 445, 446, 447, 448, 449, 450, 451, 452, 453, 454, 455, 456, 457, 458, 459, 460, 123, 461, 462, 463, 92, 464, 99, 465, 466, 467, 468, 124, 469, 470, 471, 472, 412, 413, 414, 125, 473, 474, 475, 476, 477, 250, 251, 252, 253, 478, 479, 480, 481, 126, 836, 509, 510, 511, 837, 838, 839, 840, 841, 842, 843, 844, 579, 581, 871, 872, 873, 874, 908, 909, 910, 911, 912, 913, 914, 915, 916, 917, 918, 919, 972, 973, 974, 975, 976, 977, 978, 979, 967, 968, 969, 970, 971, 959, 960, 943, 980] (by decide +kernel) (by decide +kernel)) (goodIn_sub (fun _ h => List.mem_append_left _ (List.mem_append_right _ h)) (by decide +kernel))) (goodIn_sub (fun _ h => List.mem_append_right _ h) (by decide +kernel))) (goodIn_sub (fun _ h => List.mem_append_left _ (List.mem_append_left _ (List.mem_append_right _ h))) (by decide +kernel))
set_option maxRecDepth 20000 in
theorem gL_law_L_unseen : GoodIn wsL_law (va_wsS RL 144 yL_unseen wsL_unseen) := goodIn_app (goodIn_of _ (by decide +kernel)) ggL_law_L_unseen
set_option maxRecDepth 20000 in
theorem ggL_law_X12_unseen : GoodIn wsL_law wsX12_unseen := goodIn_r _ [878, 198, 141, 199, 200, 5, 201, 202, 203, 204, 853, 854, 855, 856, 857, 858, 859, 520, 521, 522, 523, 143, 146, 142, 494, 495, 496, 497, 140, 136, 137, 138, 139, 498, 499, 500, 860, 861, 862, 863, 920, 921, 922, 923, 924, 925, 926, 927, 928, 929, 930, 931, 932, 933, 934, 935, 936, 937, 938, 939, 940, 941, 942] (by decide +kernel) (by decide +kernel)
set_option maxRecDepth 20000 in
theorem gL_law_X12_unseen : GoodIn wsL_law (wsV RL 146 RX12 yX12_unseen wsX12_unseen) := goodIn_app (goodIn_of _ (by decide +kernel)) ggL_law_X12_unseen
set_option maxRecDepth 20000 in
theorem ggL_law_L_unlike : GoodIn wsL_law wsL_unlike := goodIn_ca (goodIn_ca (goodIn_r _ [881, 161, 162, 882, 883, 884, 2, 885, 167, 168, 35, 36, 886, 700, 580, 701, 169, 170, 171, 172, 173, 174, 14, 180, 181, 182, 54, 183, 184, 887, 833, 834, 34, 835, 436, 437, 438, 439, 93, 94, 440, 283, 284, 285, 179, 441, 442, 443, 444, 122, 415, 321, 322, 17, 323, 60, 445, 446, 447, 448, 449, 450, 451, 452, 453, 454, 455, 456, 457, 458, 459, 460, 123, 461, 462, 463, 92, 464, 99, 465, 466, 467, 468, 124, 469, 470, 471, 472, 412, 413, 414, 125, 473, 474, 475, 476, 477, 250, 251, 252, 253, 478, 479, 480, 481, 126, 888, 889, 890, 891, 908, 909, 910, 911, 912, 913, 914, 915, 916, 917, 918, 919, 972, 973, 974, 975, 976, 977, 978, 979, 959, 960, 943, 980] (by decide +kernel) (by decide +kernel)) (goodIn_sub (fun _ h => List.mem_append_left _ (List.mem_append_left _ (List.mem_append_right _ h))) (by decide +kernel))) (goodIn_sub (fun _ h => List.mem_append_left _ (List.mem_append_right _ h)) (by decide +kernel))
set_option maxRecDepth 20000 in
theorem gL_law_L_unlike : GoodIn wsL_law (va_wsS RL 147 yL_unlike wsL_unlike) := goodIn_app (goodIn_of _ (by decide +kernel)) ggL_law_L_unlike
set_option maxRecDepth 20000 in
theorem ggL_law_X12_unlike : GoodIn wsL_law wsX12_unlike := goodIn_r _ [895, 141, 198, 199, 200, 5, 201, 202, 203, 204, 520, 521, 522, 523, 143, 146, 142, 494, 495, 496, 497, 140, 136, 137, 138, 139, 498, 499, 500, 920, 921, 922, 923, 924, 925, 926, 927, 928, 929, 930, 931, 932, 933, 934, 935, 936, 937, 938, 939, 940, 941, 942] (by decide +kernel) (by decide +kernel)
set_option maxRecDepth 20000 in
theorem gL_law_X12_unlike : GoodIn wsL_law (wsV RL 149 RX12 yX12_unlike wsX12_unlike) := goodIn_app (goodIn_of _ (by decide +kernel)) ggL_law_X12_unlike
set_option maxRecDepth 20000 in
theorem ggL_law_L_digit : GoodIn wsL_law wsL_digit := goodIn_ca (goodIn_ca (goodIn_r _ [898, 161, 269, 899, 900, 901, 2, 902, 173, 174, 903, 274, 275, 276, 277, 278] (by decide +kernel) (by decide +kernel)) (goodIn_sub (fun _ h => List.mem_append_left _ (List.mem_append_right _ h)) (by decide +kernel))) (goodIn_sub (fun _ h => List.mem_append_right _ h) (by decide +kernel))
set_option maxRecDepth 20000 in
theorem gL_law_L_digit : GoodIn wsL_law (va_wsS RL 150 yL_digit wsL_digit) := goodIn_app (goodIn_of _ (by decide +kernel)) ggL_law_L_digit
set_option maxRecDepth 20000 in
theorem ggL_law_X12_digit : GoodIn wsL_law wsX12_digit := goodIn_r _ [907, 198, 202, 203, 5, 204, 920, 921, 922, 923, 924, 925, 926, 927, 928, 929, 930, 931, 932, 933, 934, 935, 936, 937, 938, 939, 940, 941, 942] (by decide +kernel) (by decide +kernel)
set_option maxRecDepth 20000 in
theorem gL_law_X12_digit : GoodIn wsL_law (wsV RL 152 RX12 yX12_digit wsX12_digit) := goodIn_app (goodIn_of _ (by decide +kernel)) ggL_law_X12_digit
theorem dL_law_0 : decode cL_law 0 = .ok (.new 8, 3) := by decide +kernel
theorem dL_law_3 : decode cL_law 3 = .ok (.dup, 1) := by decide +kernel
theorem dL_law_4 : decode cL_law 4 = .ok (.invokespecial 79, 3) := by decide +kernel
theorem dL_law_7 : decode cL_law 7 = .ok (.astore_n 1, 1) := by decide +kernel
theorem dL_law_8 : decode cL_law 8 = .ok (.new 80, 3) := by decide +kernel
theorem dL_law_11 : decode cL_law 11 = .ok (.dup, 1) := by decide +kernel
theorem dL_law_12 : decode cL_law 12 = .ok (.invokespecial 82, 3) := by decide +kernel
theorem dL_law_15 : decode cL_law 15 = .ok (.astore_n 2, 1) := by decide +kernel
theorem dL_law_16 : decode cL_law 16 = .ok (.iconst 1, 1) := by decide +kernel
theorem dL_law_17 : decode cL_law 17 = .ok (.newarray .long, 2) := by decide +kernel
theorem dL_law_19 : decode cL_law 19 = .ok (.astore_n 3, 1) := by decide +kernel
theorem dL_law_20 : decode cL_law 20 = .ok (.iconst 0, 1) := by decide +kernel
theorem dL_law_21 : decode cL_law 21 = .ok (.istore 4, 2) := by decide +kernel
theorem dL_law_23 : decode cL_law 23 = .ok (.iload 4, 2) := by decide +kernel
theorem dL_law_25 : decode cL_law 25 = .ok (.aload_n 0, 1) := by decide +kernel
theorem dL_law_26 : decode cL_law 26 = .ok (.arraylength, 1) := by decide +kernel
theorem dL_law_27 : decode cL_law 27 = .ok (.iconst 5, 1) := by decide +kernel
theorem dL_law_28 : decode cL_law 28 = .ok (.isub, 1) := by decide +kernel
theorem dL_law_29 : decode cL_law 29 = .ok (.if_icmp .gt 1589, 3) := by decide +kernel
theorem dL_law_32 : decode cL_law 32 = .ok (.aload_n 0, 1) := by decide +kernel
theorem dL_law_33 : decode cL_law 33 = .ok (.iload 4, 2) := by decide +kernel
theorem dL_law_35 : decode cL_law 35 = .ok (.iaload, 1) := by decide +kernel
theorem dL_law_36 : decode cL_law 36 = .ok (.bipush 31, 2) := by decide +kernel
theorem dL_law_38 : decode cL_law 38 = .ok (.iand, 1) := by decide +kernel
theorem dL_law_39 : decode cL_law 39 = .ok (.tableswitch 1573 0 19 #[93, 149, 241, 309, 389, 457, 513, 593, 673, 753, 821, 889, 957, 1025, 1093, 1185, 1277, 1357, 1437, 1505], 93) := by decide +kernel
theorem dL_law_132 : decode cL_law 132 = .ok (.aload_n 1, 1) := by decide +kernel
theorem dL_law_133 : decode cL_law 133 = .ok (.aload_n 0, 1) := by decide +kernel
theorem dL_law_134 : decode cL_law 134 = .ok (.iload 4, 2) := by decide +kernel
theorem dL_law_136 : decode cL_law 136 = .ok (.iconst 1, 1) := by decide +kernel
theorem dL_law_137 : decode cL_law 137 = .ok (.iadd, 1) := by decide +kernel
theorem dL_law_138 : decode cL_law 138 = .ok (.iaload, 1) := by decide +kernel
theorem dL_law_139 : decode cL_law 139 = .ok (.aload_n 3, 1) := by decide +kernel
theorem dL_law_140 : decode cL_law 140 = .ok (.invokestatic 83, 3) := by decide +kernel
theorem dL_law_143 : decode cL_law 143 = .ok (.istore 5, 2) := by decide +kernel
theorem dL_law_145 : decode cL_law 145 = .ok (.aload_n 2, 1) := by decide +kernel
theorem dL_law_146 : decode cL_law 146 = .ok (.aload_n 0, 1) := by decide +kernel
theorem dL_law_147 : decode cL_law 147 = .ok (.iload 4, 2) := by decide +kernel
theorem dL_law_149 : decode cL_law 149 = .ok (.iconst 1, 1) := by decide +kernel
theorem dL_law_150 : decode cL_law 150 = .ok (.iadd, 1) := by decide +kernel
theorem dL_law_151 : decode cL_law 151 = .ok (.iaload, 1) := by decide +kernel
theorem dL_law_152 : decode cL_law 152 = .ok (.invokevirtual 88, 3) := by decide +kernel
theorem dL_law_155 : decode cL_law 155 = .ok (.istore 6, 2) := by decide +kernel
theorem dL_law_157 : decode cL_law 157 = .ok (.aload_n 2, 1) := by decide +kernel
theorem dL_law_158 : decode cL_law 158 = .ok (.invokevirtual 89, 3) := by decide +kernel
theorem dL_law_161 : decode cL_law 161 = .ok (.iload 5, 2) := by decide +kernel
theorem dL_law_163 : decode cL_law 163 = .ok (.if_icmp .eq 5, 3) := by decide +kernel
theorem dL_law_166 : decode cL_law 166 = .ok (.iconst 0, 1) := by decide +kernel
theorem dL_law_167 : decode cL_law 167 = .ok (.ireturn, 1) := by decide +kernel
theorem dL_law_168 : decode cL_law 168 = .ok (.iload 5, 2) := by decide +kernel
theorem dL_law_170 : decode cL_law 170 = .ok (.ifCond .ne 15, 3) := by decide +kernel
theorem dL_law_173 : decode cL_law 173 = .ok (.aload_n 3, 1) := by decide +kernel
theorem dL_law_174 : decode cL_law 174 = .ok (.iconst 0, 1) := by decide +kernel
theorem dL_law_175 : decode cL_law 175 = .ok (.laload, 1) := by decide +kernel
theorem dL_law_176 : decode cL_law 176 = .ok (.iload 6, 2) := by decide +kernel
theorem dL_law_178 : decode cL_law 178 = .ok (.i2l, 1) := by decide +kernel
theorem dL_law_179 : decode cL_law 179 = .ok (.lcmp, 1) := by decide +kernel
theorem dL_law_180 : decode cL_law 180 = .ok (.ifCond .eq 5, 3) := by decide +kernel
theorem dL_law_183 : decode cL_law 183 = .ok (.iconst 0, 1) := by decide +kernel
theorem dL_law_184 : decode cL_law 184 = .ok (.ireturn, 1) := by decide +kernel
theorem dL_law_185 : decode cL_law 185 = .ok (.goto 1427, 3) := by decide +kernel
theorem dL_law_188 : decode cL_law 188 = .ok (.aload_n 1, 1) := by decide +kernel
theorem dL_law_189 : decode cL_law 189 = .ok (.aload_n 0, 1) := by decide +kernel
theorem dL_law_190 : decode cL_law 190 = .ok (.iload 4, 2) := by decide +kernel
theorem dL_law_192 : decode cL_law 192 = .ok (.iconst 1, 1) := by decide +kernel
theorem dL_law_193 : decode cL_law 193 = .ok (.iadd, 1) := by decide +kernel
theorem dL_law_194 : decode cL_law 194 = .ok (.iaload, 1) := by decide +kernel
theorem dL_law_195 : decode cL_law 195 = .ok (.aload_n 0, 1) := by decide +kernel
theorem dL_law_196 : decode cL_law 196 = .ok (.iload 4, 2) := by decide +kernel
theorem dL_law_198 : decode cL_law 198 = .ok (.iconst 2, 1) := by decide +kernel
theorem dL_law_199 : decode cL_law 199 = .ok (.iadd, 1) := by decide +kernel
theorem dL_law_200 : decode cL_law 200 = .ok (.iaload, 1) := by decide +kernel
theorem dL_law_201 : decode cL_law 201 = .ok (.aload_n 0, 1) := by decide +kernel
theorem dL_law_202 : decode cL_law 202 = .ok (.iload 4, 2) := by decide +kernel
theorem dL_law_204 : decode cL_law 204 = .ok (.iconst 3, 1) := by decide +kernel
theorem dL_law_205 : decode cL_law 205 = .ok (.iadd, 1) := by decide +kernel
theorem dL_law_206 : decode cL_law 206 = .ok (.iaload, 1) := by decide +kernel
theorem dL_law_207 : decode cL_law 207 = .ok (.aload_n 0, 1) := by decide +kernel
theorem dL_law_208 : decode cL_law 208 = .ok (.iload 4, 2) := by decide +kernel
theorem dL_law_210 : decode cL_law 210 = .ok (.iconst 4, 1) := by decide +kernel
theorem dL_law_211 : decode cL_law 211 = .ok (.iadd, 1) := by decide +kernel
theorem dL_law_212 : decode cL_law 212 = .ok (.iaload, 1) := by decide +kernel
theorem dL_law_213 : decode cL_law 213 = .ok (.aload_n 3, 1) := by decide +kernel
theorem dL_law_214 : decode cL_law 214 = .ok (.invokestatic 93, 3) := by decide +kernel
theorem dL_law_217 : decode cL_law 217 = .ok (.istore 5, 2) := by decide +kernel
theorem dL_law_219 : decode cL_law 219 = .ok (.aload_n 2, 1) := by decide +kernel
theorem dL_law_220 : decode cL_law 220 = .ok (.aload_n 0, 1) := by decide +kernel
theorem dL_law_221 : decode cL_law 221 = .ok (.iload 4, 2) := by decide +kernel
theorem dL_law_223 : decode cL_law 223 = .ok (.iconst 1, 1) := by decide +kernel
theorem dL_law_224 : decode cL_law 224 = .ok (.iadd, 1) := by decide +kernel
theorem dL_law_225 : decode cL_law 225 = .ok (.iaload, 1) := by decide +kernel
theorem dL_law_226 : decode cL_law 226 = .ok (.aload_n 0, 1) := by decide +kernel
theorem dL_law_227 : decode cL_law 227 = .ok (.iload 4, 2) := by decide +kernel
theorem dL_law_229 : decode cL_law 229 = .ok (.iconst 2, 1) := by decide +kernel
theorem dL_law_230 : decode cL_law 230 = .ok (.iadd, 1) := by decide +kernel
theorem dL_law_231 : decode cL_law 231 = .ok (.iaload, 1) := by decide +kernel
theorem dL_law_232 : decode cL_law 232 = .ok (.aload_n 0, 1) := by decide +kernel
theorem dL_law_233 : decode cL_law 233 = .ok (.iload 4, 2) := by decide +kernel
theorem dL_law_235 : decode cL_law 235 = .ok (.iconst 3, 1) := by decide +kernel
theorem dL_law_236 : decode cL_law 236 = .ok (.iadd, 1) := by decide +kernel
theorem dL_law_237 : decode cL_law 237 = .ok (.iaload, 1) := by decide +kernel
theorem dL_law_238 : decode cL_law 238 = .ok (.aload_n 0, 1) := by decide +kernel
theorem dL_law_239 : decode cL_law 239 = .ok (.iload 4, 2) := by decide +kernel
theorem dL_law_241 : decode cL_law 241 = .ok (.iconst 4, 1) := by decide +kernel
theorem dL_law_242 : decode cL_law 242 = .ok (.iadd, 1) := by decide +kernel
theorem dL_law_243 : decode cL_law 243 = .ok (.iaload, 1) := by decide +kernel
theorem dL_law_244 : decode cL_law 244 = .ok (.invokevirtual 96, 3) := by decide +kernel
theorem dL_law_247 : decode cL_law 247 = .ok (.istore 6, 2) := by decide +kernel
theorem dL_law_249 : decode cL_law 249 = .ok (.aload_n 2, 1) := by decide +kernel
theorem dL_law_250 : decode cL_law 250 = .ok (.invokevirtual 89, 3) := by decide +kernel
theorem dL_law_253 : decode cL_law 253 = .ok (.iload 5, 2) := by decide +kernel
theorem dL_law_255 : decode cL_law 255 = .ok (.if_icmp .eq 5, 3) := by decide +kernel
theorem dL_law_258 : decode cL_law 258 = .ok (.iconst 0, 1) := by decide +kernel
theorem dL_law_259 : decode cL_law 259 = .ok (.ireturn, 1) := by decide +kernel
theorem dL_law_260 : decode cL_law 260 = .ok (.iload 5, 2) := by decide +kernel
theorem dL_law_262 : decode cL_law 262 = .ok (.ifCond .ne 15, 3) := by decide +kernel
theorem dL_law_265 : decode cL_law 265 = .ok (.aload_n 3, 1) := by decide +kernel
theorem dL_law_266 : decode cL_law 266 = .ok (.iconst 0, 1) := by decide +kernel
theorem dL_law_267 : decode cL_law 267 = .ok (.laload, 1) := by decide +kernel
theorem dL_law_268 : decode cL_law 268 = .ok (.iload 6, 2) := by decide +kernel
theorem dL_law_270 : decode cL_law 270 = .ok (.i2l, 1) := by decide +kernel
theorem dL_law_271 : decode cL_law 271 = .ok (.lcmp, 1) := by decide +kernel
theorem dL_law_272 : decode cL_law 272 = .ok (.ifCond .eq 5, 3) := by decide +kernel
theorem dL_law_275 : decode cL_law 275 = .ok (.iconst 0, 1) := by decide +kernel
theorem dL_law_276 : decode cL_law 276 = .ok (.ireturn, 1) := by decide +kernel
theorem dL_law_277 : decode cL_law 277 = .ok (.goto 1335, 3) := by decide +kernel
theorem dL_law_280 : decode cL_law 280 = .ok (.aload_n 1, 1) := by decide +kernel
theorem dL_law_281 : decode cL_law 281 = .ok (.aload_n 0, 1) := by decide +kernel
theorem dL_law_282 : decode cL_law 282 = .ok (.iload 4, 2) := by decide +kernel
theorem dL_law_284 : decode cL_law 284 = .ok (.iconst 1, 1) := by decide +kernel
theorem dL_law_285 : decode cL_law 285 = .ok (.iadd, 1) := by decide +kernel
theorem dL_law_286 : decode cL_law 286 = .ok (.iaload, 1) := by decide +kernel
theorem dL_law_287 : decode cL_law 287 = .ok (.aload_n 0, 1) := by decide +kernel
theorem dL_law_288 : decode cL_law 288 = .ok (.iload 4, 2) := by decide +kernel
theorem dL_law_290 : decode cL_law 290 = .ok (.iconst 2, 1) := by decide +kernel
theorem dL_law_291 : decode cL_law 291 = .ok (.iadd, 1) := by decide +kernel
theorem dL_law_292 : decode cL_law 292 = .ok (.iaload, 1) := by decide +kernel
theorem dL_law_293 : decode cL_law 293 = .ok (.aload_n 3, 1) := by decide +kernel
theorem dL_law_294 : decode cL_law 294 = .ok (.invokestatic 97, 3) := by decide +kernel
theorem dL_law_297 : decode cL_law 297 = .ok (.istore 5, 2) := by decide +kernel
theorem dL_law_299 : decode cL_law 299 = .ok (.aload_n 2, 1) := by decide +kernel
theorem dL_law_300 : decode cL_law 300 = .ok (.aload_n 0, 1) := by decide +kernel
theorem dL_law_301 : decode cL_law 301 = .ok (.iload 4, 2) := by decide +kernel
theorem dL_law_303 : decode cL_law 303 = .ok (.iconst 1, 1) := by decide +kernel
theorem dL_law_304 : decode cL_law 304 = .ok (.iadd, 1) := by decide +kernel
theorem dL_law_305 : decode cL_law 305 = .ok (.iaload, 1) := by decide +kernel
theorem dL_law_306 : decode cL_law 306 = .ok (.aload_n 0, 1) := by decide +kernel
theorem dL_law_307 : decode cL_law 307 = .ok (.iload 4, 2) := by decide +kernel
theorem dL_law_309 : decode cL_law 309 = .ok (.iconst 2, 1) := by decide +kernel
theorem dL_law_310 : decode cL_law 310 = .ok (.iadd, 1) := by decide +kernel
theorem dL_law_311 : decode cL_law 311 = .ok (.iaload, 1) := by decide +kernel
theorem dL_law_312 : decode cL_law 312 = .ok (.invokevirtual 100, 3) := by decide +kernel
theorem dL_law_315 : decode cL_law 315 = .ok (.istore 6, 2) := by decide +kernel
theorem dL_law_317 : decode cL_law 317 = .ok (.aload_n 2, 1) := by decide +kernel
theorem dL_law_318 : decode cL_law 318 = .ok (.invokevirtual 89, 3) := by decide +kernel
theorem dL_law_321 : decode cL_law 321 = .ok (.iload 5, 2) := by decide +kernel
theorem dL_law_323 : decode cL_law 323 = .ok (.if_icmp .eq 5, 3) := by decide +kernel
theorem dL_law_326 : decode cL_law 326 = .ok (.iconst 0, 1) := by decide +kernel
theorem dL_law_327 : decode cL_law 327 = .ok (.ireturn, 1) := by decide +kernel
theorem dL_law_328 : decode cL_law 328 = .ok (.iload 5, 2) := by decide +kernel
theorem dL_law_330 : decode cL_law 330 = .ok (.ifCond .ne 15, 3) := by decide +kernel
theorem dL_law_333 : decode cL_law 333 = .ok (.aload_n 3, 1) := by decide +kernel
theorem dL_law_334 : decode cL_law 334 = .ok (.iconst 0, 1) := by decide +kernel
theorem dL_law_335 : decode cL_law 335 = .ok (.laload, 1) := by decide +kernel
theorem dL_law_336 : decode cL_law 336 = .ok (.iload 6, 2) := by decide +kernel
theorem dL_law_338 : decode cL_law 338 = .ok (.i2l, 1) := by decide +kernel
theorem dL_law_339 : decode cL_law 339 = .ok (.lcmp, 1) := by decide +kernel
theorem dL_law_340 : decode cL_law 340 = .ok (.ifCond .eq 5, 3) := by decide +kernel
theorem dL_law_343 : decode cL_law 343 = .ok (.iconst 0, 1) := by decide +kernel
theorem dL_law_344 : decode cL_law 344 = .ok (.ireturn, 1) := by decide +kernel
theorem dL_law_345 : decode cL_law 345 = .ok (.goto 1267, 3) := by decide +kernel
theorem dL_law_348 : decode cL_law 348 = .ok (.aload_n 1, 1) := by decide +kernel
theorem dL_law_349 : decode cL_law 349 = .ok (.aload_n 0, 1) := by decide +kernel
theorem dL_law_350 : decode cL_law 350 = .ok (.iload 4, 2) := by decide +kernel
theorem dL_law_352 : decode cL_law 352 = .ok (.iconst 1, 1) := by decide +kernel
theorem dL_law_353 : decode cL_law 353 = .ok (.iadd, 1) := by decide +kernel
theorem dL_law_354 : decode cL_law 354 = .ok (.iaload, 1) := by decide +kernel
theorem dL_law_355 : decode cL_law 355 = .ok (.aload_n 0, 1) := by decide +kernel
theorem dL_law_356 : decode cL_law 356 = .ok (.iload 4, 2) := by decide +kernel
theorem dL_law_358 : decode cL_law 358 = .ok (.iconst 2, 1) := by decide +kernel
theorem dL_law_359 : decode cL_law 359 = .ok (.iadd, 1) := by decide +kernel
theorem dL_law_360 : decode cL_law 360 = .ok (.iaload, 1) := by decide +kernel
theorem dL_law_361 : decode cL_law 361 = .ok (.aload_n 0, 1) := by decide +kernel
theorem dL_law_362 : decode cL_law 362 = .ok (.iload 4, 2) := by decide +kernel
theorem dL_law_364 : decode cL_law 364 = .ok (.iconst 3, 1) := by decide +kernel
theorem dL_law_365 : decode cL_law 365 = .ok (.iadd, 1) := by decide +kernel
theorem dL_law_366 : decode cL_law 366 = .ok (.iaload, 1) := by decide +kernel
theorem dL_law_367 : decode cL_law 367 = .ok (.aload_n 3, 1) := by decide +kernel
theorem dL_law_368 : decode cL_law 368 = .ok (.invokestatic 101, 3) := by decide +kernel
theorem dL_law_371 : decode cL_law 371 = .ok (.istore 5, 2) := by decide +kernel
theorem dL_law_373 : decode cL_law 373 = .ok (.aload_n 2, 1) := by decide +kernel
theorem dL_law_374 : decode cL_law 374 = .ok (.aload_n 0, 1) := by decide +kernel
theorem dL_law_375 : decode cL_law 375 = .ok (.iload 4, 2) := by decide +kernel
theorem dL_law_377 : decode cL_law 377 = .ok (.iconst 1, 1) := by decide +kernel
theorem dL_law_378 : decode cL_law 378 = .ok (.iadd, 1) := by decide +kernel
theorem dL_law_379 : decode cL_law 379 = .ok (.iaload, 1) := by decide +kernel
theorem dL_law_380 : decode cL_law 380 = .ok (.aload_n 0, 1) := by decide +kernel
theorem dL_law_381 : decode cL_law 381 = .ok (.iload 4, 2) := by decide +kernel
theorem dL_law_383 : decode cL_law 383 = .ok (.iconst 2, 1) := by decide +kernel
theorem dL_law_384 : decode cL_law 384 = .ok (.iadd, 1) := by decide +kernel
theorem dL_law_385 : decode cL_law 385 = .ok (.iaload, 1) := by decide +kernel
theorem dL_law_386 : decode cL_law 386 = .ok (.aload_n 0, 1) := by decide +kernel
theorem dL_law_387 : decode cL_law 387 = .ok (.iload 4, 2) := by decide +kernel
theorem dL_law_389 : decode cL_law 389 = .ok (.iconst 3, 1) := by decide +kernel
theorem dL_law_390 : decode cL_law 390 = .ok (.iadd, 1) := by decide +kernel
theorem dL_law_391 : decode cL_law 391 = .ok (.iaload, 1) := by decide +kernel
theorem dL_law_392 : decode cL_law 392 = .ok (.invokevirtual 104, 3) := by decide +kernel
theorem dL_law_395 : decode cL_law 395 = .ok (.istore 6, 2) := by decide +kernel
theorem dL_law_397 : decode cL_law 397 = .ok (.aload_n 2, 1) := by decide +kernel
theorem dL_law_398 : decode cL_law 398 = .ok (.invokevirtual 89, 3) := by decide +kernel
theorem dL_law_401 : decode cL_law 401 = .ok (.iload 5, 2) := by decide +kernel
theorem dL_law_403 : decode cL_law 403 = .ok (.if_icmp .eq 5, 3) := by decide +kernel
theorem dL_law_406 : decode cL_law 406 = .ok (.iconst 0, 1) := by decide +kernel

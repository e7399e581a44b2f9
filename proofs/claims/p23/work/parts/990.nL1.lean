set_option maxRecDepth 20000 in
theorem ggL_act_X11_input : GoodIn wsL_act wsX11_input := goodIn_ca (goodIn_ca (goodIn_r _ [11, 12, 13, 14, 15, 16, 10, 17, 18, 19, 20, 21, 22, 23, 24, 25, 26, 27, 28, 29, 30, 31, 32, 33, 34, 35, 36, 37, 38, 39, 40, 41, 42, 43, 44, 45, 46, 47, 48, 49, 566, 567, 568, 569, 570, 571, 572, 573, 574, 575, 576, 577, 578, 579, 580, 581, 582, 583, 584, 585, 586] (by decide +kernel) (by decide +kernel)) (goodIn_sub (fun _ h => List.mem_cons_of_mem _ (List.mem_append_left _ (List.mem_append_left _ (List.mem_append_right _ h)))) (by decide +kernel))) (goodIn_sub (fun _ h => List.mem_cons_of_mem _ (List.mem_append_left _ (List.mem_append_right _ h))) (by decide +kernel))
set_option maxRecDepth 20000 in
theorem gL_act_X11_input : GoodIn wsL_act (wsV RL 7 RX11 yX11_input wsX11_input) := goodIn_app (goodIn_of _ (by decide +kernel)) ggL_act_X11_input
set_option maxRecDepth 20000 in
theorem ggL_act_X11_gate : GoodIn wsL_act wsX11_gate := goodIn_ca (goodIn_ca (goodIn_r _ [53, 12, 13, 14, 15, 16, 10, 17, 18, 19, 20, 54, 55, 56, 57, 58, 59, 60, 61, 62, 24, 63, 26, 21, 22, 23, 25, 64, 65, 66, 67, 36, 37, 38, 39, 40, 41, 42, 43, 44, 45, 46, 47, 48, 49, 566, 567, 568, 569, 570, 571, 572, 573, 574, 575, 576, 577, 578, 579, 580, 581, 582, 583, 584, 585, 586] (by decide +kernel) (by decide +kernel)) (goodIn_sub (fun _ h => List.mem_cons_of_mem _ (List.mem_append_left _ (List.mem_append_left _ (List.mem_append_right _ h)))) (by decide +kernel))) (goodIn_sub (fun _ h => List.mem_cons_of_mem _ (List.mem_append_left _ (List.mem_append_right _ h))) (by decide +kernel))
set_option maxRecDepth 20000 in
theorem gL_act_X11_gate : GoodIn wsL_act (wsV RL 13 RX11 yX11_gate wsX11_gate) := goodIn_app (goodIn_of _ (by decide +kernel)) ggL_act_X11_gate
set_option maxRecDepth 20000 in
theorem ggL_act_X11_out : GoodIn wsL_act wsX11_out := goodIn_ca (goodIn_ca (goodIn_r _ [71, 12, 13, 14, 15, 16, 10, 17, 18, 19, 20, 57, 58, 59, 60, 61, 62, 24, 63, 26, 72, 73, 74, 75, 76, 77, 78, 79, 80, 81, 44, 45, 46, 47, 48, 49, 566, 567, 568, 569, 570, 571, 572, 573, 574, 575, 576, 577, 578, 579, 580, 581, 582, 583, 584, 585, 586] (by decide +kernel) (by decide +kernel)) (goodIn_sub (fun _ h => List.mem_cons_of_mem _ (List.mem_append_left _ (List.mem_append_left _ (List.mem_append_right _ h)))) (by decide +kernel))) (goodIn_sub (fun _ h => List.mem_cons_of_mem _ (List.mem_append_left _ (List.mem_append_right _ h))) (by decide +kernel))
set_option maxRecDepth 20000 in
theorem gL_act_X11_out : GoodIn wsL_act (wsV RL 17 RX11 yX11_out wsX11_out) := goodIn_app (goodIn_of _ (by decide +kernel)) ggL_act_X11_out
set_option maxRecDepth 20000 in
theorem ggL_act_X11_adder : GoodIn wsL_act wsX11_adder := goodIn_ca (goodIn_ca (goodIn_ca (goodIn_r _ [85, 86, 14, 15, 16, 10, 17, 18, 19, 20, 87, 88, 89, 90, 91, 92, 93, 94, 12, 13, 95, 96, 97, 24, 98, 26, 99, 100, 101, 102, 103, 104, 105, 106, 107, 108, 109, 110, 33, 34, 35, 31, 36, 37, 38, 39, 40, 41, 42, 43, 44, 45, 46, 47, 48, 49, 111, 112, 113, 114, 115, 65, 66, 67, 116, 78, 79, 80, 76, 81, 117, 118, 119, 120, 121, 122, 123, 124, 125, 126, 127, 128, 129, 130, 131, 132, 133, 134, 135, 136, 137, 138, 139, 140, 141, 142, 143, 144, 145, 146, 566, 567, 568, 569, 570, 571, 572, 573, 574, 575, 576, 577, 578, 579, 580, 581, 582, 583, 584, 585, 587, 588, 589, 590, 591, 592, 593, 594, 595, 596, 586] (by decide +kernel) (by decide +kernel)) (goodIn_sub (fun _ h => List.mem_cons_of_mem _ (List.mem_append_left _ (List.mem_append_right _ h))) (by decide +kernel))) (goodIn_sub (fun _ h => List.mem_cons_of_mem _ (List.mem_append_right _ h)) (by decide +kernel))) (goodIn_sub (fun _ h => List.mem_cons_of_mem _ (List.mem_append_left _ (List.mem_append_left _ (List.mem_append_right _ h)))) (by decide +kernel))
set_option maxRecDepth 20000 in
theorem gL_act_X11_adder : GoodIn wsL_act (wsV RL 21 RX11 yX11_adder wsX11_adder) := goodIn_app (goodIn_of _ (by decide +kernel)) ggL_act_X11_adder
set_option maxRecDepth 20000 in
theorem ggL_act_X11_multiplier : GoodIn wsL_act wsX11_multiplier := goodIn_ca (goodIn_ca (goodIn_ca (goodIn_r _ [150, 86, 14, 15, 16, 10, 17, 18, 19, 20, 87, 88, 89, 90, 91, 92, 93, 94, 12, 13, 95, 96, 97, 24, 98, 26, 151, 152, 153, 102, 154, 155, 156, 157, 106, 107, 108, 109, 110, 33, 34, 35, 31, 36, 37, 38, 39, 40, 41, 42, 43, 44, 45, 46, 47, 48, 49, 115, 65, 66, 67, 128, 146, 140, 141, 142, 158, 159, 160, 161, 116, 78, 79, 80, 76, 81, 162, 163, 164, 165, 105, 104, 111, 112, 113, 114, 117, 118, 119, 120, 566, 567, 568, 569, 570, 571, 572, 573, 574, 575, 576, 577, 578, 579, 580, 581, 582, 583, 584, 585, 587, 588, 589, 590, 591, 592, 593, 594, 595, 596, 586] (by decide +kernel) (by decide +kernel)) (goodIn_sub (fun _ h => List.mem_cons_of_mem _ (List.mem_append_left _ (List.mem_append_right _ h))) (by decide +kernel))) (goodIn_sub (fun _ h => List.mem_cons_of_mem _ (List.mem_append_right _ h)) (by decide +kernel))) (goodIn_sub (fun _ h => List.mem_cons_of_mem _ (List.mem_append_left _ (List.mem_append_left _ (List.mem_append_right _ h)))) (by decide +kernel))
set_option maxRecDepth 20000 in
theorem gL_act_X11_multiplier : GoodIn wsL_act (wsV RL 25 RX11 yX11_multiplier wsX11_multiplier) := goodIn_app (goodIn_of _ (by decide +kernel)) ggL_act_X11_multiplier
set_option maxRecDepth 20000 in
theorem ggL_act_X11_clear : GoodIn wsL_act wsX11_clear := goodIn_ca (goodIn_r _ [169, 14, 15, 16, 10, 17, 18, 19, 20, 95, 96, 97, 24, 98, 26, 170, 171, 172, 173, 31, 76, 566, 567, 568, 569, 570, 571, 572, 573, 574, 575, 576, 577, 578, 579, 580, 581, 582, 583, 584, 585] (by decide +kernel) (by decide +kernel)) (goodIn_sub (fun _ h => List.mem_cons_of_mem _ (List.mem_append_left _ (List.mem_append_right _ h))) (by decide +kernel))
set_option maxRecDepth 20000 in
theorem gL_act_X11_clear : GoodIn wsL_act (wsV RL 28 RX11 yX11_clear wsX11_clear) := goodIn_app (goodIn_of _ (by decide +kernel)) ggL_act_X11_clear
set_option maxRecDepth 20000 in
theorem ggL_act_X11_cost : GoodIn wsL_act wsX11_cost := goodIn_ca (goodIn_ca (goodIn_r _ [177, 178, 179, 54, 55, 10, 56, 18, 19, 87, 88, 89, 90, 91, 180, 140, 141, 47, 142, 49, 181, 45, 46, 48, 566, 567, 568, 569, 570, 571, 572, 573, 574, 575, 576, 577, 586] (by decide +kernel) (by decide +kernel)) (goodIn_sub (fun _ h => List.mem_cons_of_mem _ (List.mem_append_left _ (List.mem_append_right _ h))) (by decide +kernel))) (goodIn_sub (fun _ h => List.mem_cons_of_mem _ (List.mem_append_right _ h)) (by decide +kernel))
set_option maxRecDepth 20000 in
theorem gL_act_X11_cost : GoodIn wsL_act (wsV RL 31 RX11 yX11_cost wsX11_cost) := goodIn_app (goodIn_of _ (by decide +kernel)) ggL_act_X11_cost
set_option maxRecDepth 20000 in
theorem ggL_act_X11_stick : GoodIn wsL_act wsX11_stick := goodIn_ca (goodIn_ca (goodIn_r _ [185, 14, 15, 16, 10, 17, 18, 19, 20, 57, 58, 59, 60, 61, 62, 24, 63, 26, 87, 88, 89, 90, 91, 186, 187, 188, 189, 43, 190, 140, 141, 47, 142, 49, 191, 192, 193, 194, 44, 45, 46, 48, 566, 567, 568, 569, 570, 571, 572, 573, 574, 575, 576, 577, 578, 579, 580, 581, 582, 583, 584, 585, 586] (by decide +kernel) (by decide +kernel)) (goodIn_sub (fun _ h => List.mem_cons_of_mem _ (List.mem_append_left _ (List.mem_append_right _ h))) (by decide +kernel))) (goodIn_sub (fun _ h => List.mem_cons_of_mem _ (List.mem_append_right _ h)) (by decide +kernel))
set_option maxRecDepth 20000 in
theorem gL_act_X11_stick : GoodIn wsL_act (wsV RL 34 RX11 yX11_stick wsX11_stick) := goodIn_app (goodIn_of _ (by decide +kernel)) ggL_act_X11_stick
set_option maxRecDepth 20000 in
theorem ggL_act_X11_bit : GoodIn wsL_act wsX11_bit := goodIn_ca (goodIn_ca (goodIn_r _ [198, 199, 200, 14, 15, 16, 10, 17, 18, 19, 20, 57, 58, 59, 60, 61, 62, 24, 63, 26, 87, 88, 89, 90, 91, 201, 202, 203, 204, 205, 206, 207, 208, 209, 210, 211, 212, 96, 97, 98, 213, 214, 215, 216, 40, 190, 140, 141, 47, 142, 49, 217, 218, 219, 220, 221, 222, 223, 224, 225, 226, 227, 228, 229, 230, 231, 232, 41, 233, 234, 235, 236, 237, 238, 239, 240, 241, 242, 42, 243, 244, 245, 246, 187, 188, 189, 43, 247, 248, 249, 250, 251, 73, 74, 75, 76, 252, 253, 254, 255, 81, 256, 257, 258, 259, 566, 567, 568, 569, 570, 571, 572, 573, 574, 575, 576, 577, 578, 579, 580, 581, 582, 583, 584, 585, 597, 598, 586, 599] (by decide +kernel) (by decide +kernel)) (goodIn_sub (fun _ h => List.mem_cons_of_mem _ (List.mem_append_left _ (List.mem_append_right _ h))) (by decide +kernel))) (goodIn_sub (fun _ h => List.mem_cons_of_mem _ (List.mem_append_right _ h)) (by decide +kernel))
set_option maxRecDepth 20000 in
theorem gL_act_X11_bit : GoodIn wsL_act (wsV RL 37 RX11 yX11_bit wsX11_bit) := goodIn_app (goodIn_of _ (by decide +kernel)) ggL_act_X11_bit
set_option maxRecDepth 20000 in
theorem ggL_act_X11_value : GoodIn wsL_act wsX11_value := goodIn_ca (goodIn_ca (goodIn_r _ [263, 199, 200, 14, 15, 16, 10, 17, 18, 19, 20, 87, 88, 89, 90, 91, 201, 202, 203, 204, 205, 206, 207, 208, 209, 210, 211, 212, 96, 97, 24, 98, 26, 213, 214, 215, 216, 40, 190, 140, 141, 47, 142, 49, 217, 218, 219, 220, 221, 222, 223, 224, 225, 226, 227, 228, 229, 230, 231, 232, 41, 233, 234, 235, 236, 237, 238, 239, 240, 241, 242, 42, 243, 244, 245, 246, 187, 188, 189, 43, 247, 248, 249, 250, 251, 73, 74, 75, 76, 252, 253, 254, 255, 81, 264, 265, 266, 267, 566, 567, 568, 569, 570, 571, 572, 573, 574, 575, 576, 577, 597, 598, 578, 579, 580, 581, 582, 583, 584, 585, 586, 599] (by decide +kernel) (by decide +kernel)) (goodIn_sub (fun _ h => List.mem_cons_of_mem _ (List.mem_append_left _ (List.mem_append_right _ h))) (by decide +kernel))) (goodIn_sub (fun _ h => List.mem_cons_of_mem _ (List.mem_append_right _ h)) (by decide +kernel))
set_option maxRecDepth 20000 in
theorem gL_act_X11_value : GoodIn wsL_act (wsV RL 40 RX11 yX11_value wsX11_value) := goodIn_app (goodIn_of _ (by decide +kernel)) ggL_act_X11_value
set_option maxRecDepth 20000 in
theorem ggL_act_X11_valueAnew : GoodIn wsL_act wsX11_valueAnew := goodIn_ca (goodIn_ca (goodIn_r _ [271, 199, 272, 14, 15, 16, 10, 17, 18, 19, 20, 87, 88, 89, 90, 91, 72, 73, 74, 24, 75, 76, 273, 253, 254, 255, 81, 190, 140, 141, 47, 142, 49, 274, 275, 276, 277, 278, 279, 280, 281, 282, 283, 284, 285, 45, 46, 48, 286, 287, 288, 289, 290, 96, 97, 98, 26, 291, 292, 214, 215, 216, 40, 293, 230, 231, 232, 41, 294, 240, 241, 242, 42, 295, 296, 297, 298, 299, 187, 188, 189, 43, 300, 226, 227, 228, 243, 244, 245, 566, 567, 568, 569, 570, 571, 572, 573, 574, 575, 576, 577, 578, 579, 580, 581, 582, 583, 584, 585, 586, 600, 601, 602] (by decide +kernel) (by decide +kernel)) (goodIn_sub (fun _ h => List.mem_cons_of_mem _ (List.mem_append_left _ (List.mem_append_right _ h))) (by decide +kernel))) (goodIn_sub (fun _ h => List.mem_cons_of_mem _ (List.mem_append_right _ h)) (by decide +kernel))
set_option maxRecDepth 20000 in
theorem gL_act_X11_valueAnew : GoodIn wsL_act (wsV RL 43 RX11 yX11_valueAnew wsX11_valueAnew) := goodIn_app (goodIn_of _ (by decide +kernel)) ggL_act_X11_valueAnew
set_option maxRecDepth 20000 in
theorem ggL_act_X11_ofNet : GoodIn wsL_act wsX11_ofNet := goodIn_ca (goodIn_ca (goodIn_r _ [304, 305, 178, 272, 14, 15, 16, 10, 17, 18, 19, 20, 87, 88, 89, 90, 91, 95, 96, 97, 24, 98, 26, 27, 28, 29, 30, 31, 72, 73, 74, 75, 76, 306, 307, 308, 309, 179, 310, 214, 215, 216, 40, 190, 140, 141, 47, 142, 49, 311, 226, 227, 228, 180, 312, 313, 314, 315, 316, 317, 318, 319, 320, 321, 322, 323, 324, 325, 230, 231, 232, 41, 326, 327, 240, 241, 242, 42, 328, 329, 45, 46, 48, 330, 331, 332, 333, 334, 335, 336, 337, 338, 339, 253, 254, 255, 81, 340, 341, 342, 277, 343, 344, 345, 281, 282, 283, 284, 290, 292, 293, 346, 347, 348, 349, 139, 350, 294, 300, 351, 352, 291, 353, 354, 355, 356, 279, 285, 286, 287, 288, 289, 566, 567, 568, 569, 570, 571, 572, 573, 574, 575, 576, 577, 578, 579, 580, 581, 582, 583, 584, 585, 586, 603, 604, 600, 601, 602] (by decide +kernel) (by decide +kernel)) (goodIn_sub (fun _ h => List.mem_cons_of_mem _ (List.mem_append_left _ (List.mem_append_right _ h))) (by decide +kernel))) (goodIn_sub (fun _ h => List.mem_cons_of_mem _ (List.mem_append_right _ h)) (by decide +kernel))
set_option maxRecDepth 20000 in
theorem gL_act_X11_ofNet : GoodIn wsL_act (wsV RL 46 RX11 yX11_ofNet wsX11_ofNet) := goodIn_app (goodIn_of _ (by decide +kernel)) ggL_act_X11_ofNet
set_option maxRecDepth 20000 in
theorem ggL_act_X11_time : GoodIn wsL_act wsX11_time := goodIn_ca (goodIn_r _ [360, 305, 178, 14, 15, 16, 10, 17, 18, 19, 20, 57, 58, 59, 60, 61, 62, 24, 63, 26, 312, 313, 314, 315, 316, 317, 318, 319, 320, 321, 322, 323, 96, 97, 98, 324, 214, 215, 216, 40, 190, 140, 141, 47, 142, 49, 325, 230, 231, 232, 41, 326, 327, 240, 241, 242, 42, 328, 226, 227, 228, 329, 45, 46, 48, 361, 362, 363, 364, 566, 567, 568, 569, 570, 571, 572, 573, 574, 575, 576, 577, 578, 579, 580, 581, 582, 583, 584, 585, 603, 604, 586] (by decide +kernel) (by decide +kernel)) (goodIn_sub (fun _ h => List.mem_cons_of_mem _ (List.mem_append_left _ (List.mem_append_right _ h))) (by decide +kernel))
set_option maxRecDepth 20000 in
theorem gL_act_X11_time : GoodIn wsL_act (wsV RL 49 RX11 yX11_time wsX11_time) := goodIn_app (goodIn_of _ (by decide +kernel)) ggL_act_X11_time
set_option maxRecDepth 20000 in
theorem ggL_act_X11_path : GoodIn wsL_act wsX11_path := goodIn_ca (goodIn_r _ [368, 18, 19, 305, 178, 14, 15, 16, 10, 17, 20, 312, 313, 314, 315, 316, 317, 318, 319, 320, 321, 322, 323, 96, 97, 24, 98, 26, 324, 214, 215, 216, 40, 190, 140, 141, 47, 142, 49, 325, 230, 231, 232, 41, 326, 327, 240, 241, 242, 42, 328, 226, 227, 228, 329, 45, 46, 48, 369, 335, 336, 337, 338, 73, 74, 75, 76, 339, 253, 254, 255, 81, 370, 371, 372, 373, 566, 567, 568, 569, 570, 571, 572, 573, 574, 575, 576, 577, 603, 604, 578, 579, 580, 581, 582, 583, 584, 585, 586] (by decide +kernel) (by decide +kernel)) (goodIn_sub (fun _ h => List.mem_cons_of_mem _ (List.mem_append_left _ (List.mem_append_right _ h))) (by decide +kernel))
set_option maxRecDepth 20000 in
theorem gL_act_X11_path : GoodIn wsL_act (wsV RL 52 RX11 yX11_path wsX11_path) := goodIn_app (goodIn_of _ (by decide +kernel)) ggL_act_X11_path
set_option maxRecDepth 20000 in
theorem ggL_act_X11_changes : GoodIn wsL_act wsX11_changes := goodIn_ca (goodIn_ca (goodIn_r _ [377, 378, 178, 200, 379, 305, 380, 14, 15, 16, 10, 17, 18, 19, 20, 381, 382, 383, 199, 87, 88, 89, 90, 91, 384, 385, 386, 387, 312, 313, 314, 315, 316, 317, 318, 319, 320, 321, 322, 323, 96, 97, 24, 98, 26, 324, 214, 215, 216, 40, 190, 140, 141, 47, 142, 49, 325, 230, 231, 232, 41, 326, 327, 240, 241, 242, 42, 328, 226, 227, 228, 329, 45, 46, 48, 201, 202, 203, 204, 205, 206, 207, 208, 209, 210, 211, 212, 213, 217, 218, 219, 220, 221, 222, 223, 224, 225, 229, 233, 234, 235, 236, 237, 238, 239, 243, 244, 245, 246, 187, 188, 189, 43, 247, 248, 249, 250, 251, 73, 74, 75, 76, 252, 253, 254, 255, 81, 388, 389, 390, 391, 392, 393, 394, 395, 396, 397, 398, 399, 400, 401, 402, 403, 404, 405, 406, 407, 408, 409, 410, 411, 412, 413, 414, 415, 416, 417, 418, 419, 420, 421, 422, 423, 424, 425, 426, 427, 428, 429, 430, 431, 432, 433, 434, 435, 436, 437, 438, 439, 440, 441, 442, 443, 444, 445, 446, 447, 448, 449, 450, 451, 452, 453, 454, 455, 456, 457, 458, 459, 460, 461, 566, 567, 568, 569, 570, 571, 572, 573, 574, 575, 576, 577, 603, 604, 578, 579, 580, 581, 582, 583, 584, 585, 586, 597, 598, 599, 605, 606, 607, 608, 609] (by decide +kernel) (by decide +kernel)) (goodIn_sub (fun _ h => List.mem_cons_of_mem _ (List.mem_append_left _ (List.mem_append_right _ h))) (by decide +kernel))) (goodIn_sub (fun _ h => List.mem_cons_of_mem _ (List.mem_append_right _ h)) (by decide +kernel))
set_option maxRecDepth 20000 in
theorem gL_act_X11_changes : GoodIn wsL_act (wsV RL 55 RX11 yX11_changes wsX11_changes) := goodIn_app (goodIn_of _ (by decide +kernel)) ggL_act_X11_changes
set_option maxRecDepth 20000 in
theorem ggL_act_X11_changesAnew : GoodIn wsL_act wsX11_changesAnew := goodIn_ca (goodIn_ca (goodIn_r _ [465, 466, 200, 305, 178, 379, 380, 14, 15, 16, 10, 17, 18, 19, 20, 381, 382, 383, 199, 87, 88, 89, 90, 91, 384, 385, 386, 387, 312, 313, 314, 315, 316, 317, 318, 319, 320, 321, 322, 323, 96, 97, 24, 98, 26, 324, 214, 215, 216, 40, 190, 140, 141, 47, 142, 49, 325, 230, 231, 232, 41, 326, 327, 240, 241, 242, 42, 328, 226, 227, 228, 329, 45, 46, 48, 201, 202, 203, 204, 205, 206, 207, 208, 209, 210, 211, 212, 213, 217, 218, 219, 220, 221, 222, 223, 224, 225, 229, 233, 234, 235, 236, 237, 238, 239, 243, 244, 245, 246, 187, 188, 189, 43, 247, 248, 249, 250, 251, 73, 74, 75, 76, 252, 253, 254, 255, 81, 388, 389, 390, 391, 392, 393, 394, 395, 467, 468, 469, 470, 471, 472, 473, 474, 257, 258, 259, 475, 396, 397, 398, 399, 476, 477, 478, 479, 480, 481, 482, 483, 484, 485, 486, 487, 488, 489, 490, 491, 492, 493, 494, 495, 496, 497, 436, 437, 438, 498, 454, 455, 456, 457, 458, 459, 460, 461, 566, 567, 568, 569, 570, 571, 572, 573, 574, 575, 576, 577, 603, 604, 578, 579, 580, 581, 582, 583, 584, 585, 586, 597, 598, 599, 605, 606, 607, 610] (by decide +kernel) (by decide +kernel)) (goodIn_sub (fun _ h => List.mem_cons_of_mem _ (List.mem_append_left _ (List.mem_append_right _ h))) (by decide +kernel))) (goodIn_sub (fun _ h => List.mem_cons_of_mem _ (List.mem_append_right _ h)) (by decide +kernel))
set_option maxRecDepth 20000 in
theorem gL_act_X11_changesAnew : GoodIn wsL_act (wsV RL 58 RX11 yX11_changesAnew wsX11_changesAnew) := goodIn_app (goodIn_of _ (by decide +kernel)) ggL_act_X11_changesAnew
set_option maxRecDepth 20000 in
theorem ggL_act_X11_off : GoodIn wsL_act wsX11_off := goodIn_ca (goodIn_ca (goodIn_ca (goodIn_r _ [502, 503, 200, 14, 15, 16, 10, 17, 18, 19, 20, 87, 88, 89, 90, 91, 504, 505, 506, 12, 13, 27, 28, 29, 24, 30, 31, 507, 508, 509, 510, 511, 512, 406, 321, 407, 513, 514, 515, 516, 517, 518, 519, 520, 521, 522, 523, 524, 525, 526, 527, 528, 204, 529, 206, 207, 208, 209, 210, 211, 212, 96, 97, 98, 26, 213, 214, 215, 216, 40, 190, 140, 141, 47, 142, 49, 217, 218, 219, 220, 221, 222, 223, 224, 225, 226, 227, 228, 229, 230, 231, 232, 41, 233, 234, 235, 236, 237, 238, 239, 240, 241, 242, 42, 243, 244, 245, 246, 187, 188, 189, 43, 247, 248, 249, 250, 251, 73, 74, 75, 76, 252, 253, 254, 255, 81, 530, 265, 266, 267, 531, 532, 533, 534, 535, 536, 537, 538, 320, 322, 539, 540, 541, 542, 566, 567, 568, 569, 570, 571, 572, 573, 574, 575, 576, 577, 578, 579, 580, 581, 582, 583, 584, 585, 611, 612, 613, 614, 615, 597, 598, 586, 599] (by decide +kernel) (by decide +kernel)) (goodIn_sub (fun _ h => List.mem_cons_of_mem _ (List.mem_append_left _ (List.mem_append_right _ h))) (by decide +kernel))) (goodIn_sub (fun _ h => List.mem_cons_of_mem _ (List.mem_append_right _ h)) (by decide +kernel))) (goodIn_sub (fun _ h => List.mem_cons_of_mem _ (List.mem_append_left _ (List.mem_append_left _ (List.mem_append_right _ h)))) (by decide +kernel))
set_option maxRecDepth 20000 in
theorem gL_act_X11_off : GoodIn wsL_act (wsV RL 61 RX11 yX11_off wsX11_off) := goodIn_app (goodIn_of _ (by decide +kernel)) ggL_act_X11_off
set_option maxRecDepth 20000 in
theorem ggL_act_X11_unseen : GoodIn wsL_act wsX11_unseen := goodIn_ca (goodIn_ca (goodIn_ca (goodIn_r _ [546, 503, 200, 14, 15, 16, 10, 17, 18, 19, 20, 87, 88, 89, 90, 91, 504, 505, 506, 12, 13, 27, 28, 29, 24, 30, 31, 507, 508, 509, 510, 511, 512, 406, 321, 407, 513, 514, 515, 516, 517, 518, 519, 520, 521, 522, 523, 524, 525, 526, 527, 528, 204, 529, 206, 207, 208, 209, 210, 211, 212, 96, 97, 98, 26, 213, 214, 215, 216, 40, 190, 140, 141, 47, 142, 49, 217, 218, 219, 220, 221, 222, 223, 224, 225, 226, 227, 228, 229, 230, 231, 232, 41, 233, 234, 235, 236, 237, 238, 239, 240, 241, 242, 42, 243, 244, 245, 246, 187, 188, 189, 43, 247, 248, 249, 250, 251, 73, 74, 75, 76, 252, 253, 254, 255, 81, 530, 265, 266, 267, 531, 532, 533, 534, 535, 536, 537, 538, 320, 322, 547, 548, 549, 550, 566, 567, 568, 569, 570, 571, 572, 573, 574, 575, 576, 577, 578, 579, 580, 581, 582, 583, 584, 585, 611, 612, 613, 614, 615, 597, 598, 586, 599] (by decide +kernel) (by decide +kernel)) (goodIn_sub (fun _ h => List.mem_cons_of_mem _ (List.mem_append_left _ (List.mem_append_right _ h))) (by decide +kernel))) (goodIn_sub (fun _ h => List.mem_cons_of_mem _ (List.mem_append_right _ h)) (by decide +kernel))) (goodIn_sub (fun _ h => List.mem_cons_of_mem _ (List.mem_append_left _ (List.mem_append_left _ (List.mem_append_right _ h)))) (by decide +kernel))
set_option maxRecDepth 20000 in
theorem gL_act_X11_unseen : GoodIn wsL_act (wsV RL 64 RX11 yX11_unseen wsX11_unseen) := goodIn_app (goodIn_of _ (by decide +kernel)) ggL_act_X11_unseen
set_option maxRecDepth 20000 in
theorem ggL_act_X11_unlike : GoodIn wsL_act wsX11_unlike := goodIn_ca (goodIn_ca (goodIn_r _ [554, 12, 13, 200, 379, 555, 406, 321, 407, 14, 15, 16, 10, 17, 18, 19, 20, 27, 28, 29, 24, 30, 31, 556, 527, 528, 204, 529, 206, 207, 208, 209, 210, 211, 212, 96, 97, 98, 26, 213, 214, 215, 216, 40, 190, 140, 141, 47, 142, 49, 217, 218, 219, 220, 221, 222, 223, 224, 225, 226, 227, 228, 229, 230, 231, 232, 41, 233, 234, 235, 236, 237, 238, 239, 240, 241, 242, 42, 243, 244, 245, 246, 187, 188, 189, 43, 247, 248, 249, 250, 251, 73, 74, 75, 76, 252, 253, 254, 255, 81, 557, 558, 559, 560, 566, 567, 568, 569, 570, 571, 572, 573, 574, 575, 576, 577, 578, 579, 580, 581, 582, 583, 584, 585, 597, 598, 586, 599] (by decide +kernel) (by decide +kernel)) (goodIn_sub (fun _ h => List.mem_cons_of_mem _ (List.mem_append_left _ (List.mem_append_left _ (List.mem_append_right _ h)))) (by decide +kernel))) (goodIn_sub (fun _ h => List.mem_cons_of_mem _ (List.mem_append_left _ (List.mem_append_right _ h))) (by decide +kernel))
set_option maxRecDepth 20000 in
theorem gL_act_X11_unlike : GoodIn wsL_act (wsV RL 67 RX11 yX11_unlike wsX11_unlike) := goodIn_app (goodIn_of _ (by decide +kernel)) ggL_act_X11_unlike
set_option maxRecDepth 20000 in
theorem ggL_act_X11_digit : GoodIn wsL_act wsX11_digit := goodIn_ca (goodIn_ca (goodIn_r _ [564, 18, 19, 565, 87, 88, 10, 89, 90, 91] (by decide +kernel) (by decide +kernel)) (goodIn_sub (fun _ h => List.mem_cons_of_mem _ (List.mem_append_left _ (List.mem_append_right _ h))) (by decide +kernel))) (goodIn_sub (fun _ h => List.mem_cons_of_mem _ (List.mem_append_right _ h)) (by decide +kernel))
set_option maxRecDepth 20000 in
theorem gL_act_X11_digit : GoodIn wsL_act (wsV RL 70 RX11 yX11_digit wsX11_digit) := goodIn_app (goodIn_of _ (by decide +kernel)) ggL_act_X11_digit
theorem dL_act_0 : decode cL_act 0 = .ok (.iload_n 1, 1) := by decide +kernel
theorem dL_act_1 : decode cL_act 1 = .ok (.ifCond .ne 11, 3) := by decide +kernel
theorem dL_act_4 : decode cL_act 4 = .ok (.aload_n 0, 1) := by decide +kernel
theorem dL_act_5 : decode cL_act 5 = .ok (.iload_n 2, 1) := by decide +kernel
theorem dL_act_6 : decode cL_act 6 = .ok (.invokevirtual 7, 3) := by decide +kernel
theorem dL_act_9 : decode cL_act 9 = .ok (.goto 297, 3) := by decide +kernel
theorem dL_act_12 : decode cL_act 12 = .ok (.iload_n 1, 1) := by decide +kernel
theorem dL_act_13 : decode cL_act 13 = .ok (.iconst 1, 1) := by decide +kernel
theorem dL_act_14 : decode cL_act 14 = .ok (.if_icmp .ne 16, 3) := by decide +kernel
theorem dL_act_17 : decode cL_act 17 = .ok (.aload_n 0, 1) := by decide +kernel
theorem dL_act_18 : decode cL_act 18 = .ok (.iload_n 2, 1) := by decide +kernel
theorem dL_act_19 : decode cL_act 19 = .ok (.iload_n 3, 1) := by decide +kernel
theorem dL_act_20 : decode cL_act 20 = .ok (.iload 4, 2) := by decide +kernel
theorem dL_act_22 : decode cL_act 22 = .ok (.iload 5, 2) := by decide +kernel
theorem dL_act_24 : decode cL_act 24 = .ok (.invokevirtual 13, 3) := by decide +kernel
theorem dL_act_27 : decode cL_act 27 = .ok (.goto 279, 3) := by decide +kernel
theorem dL_act_30 : decode cL_act 30 = .ok (.iload_n 1, 1) := by decide +kernel
theorem dL_act_31 : decode cL_act 31 = .ok (.iconst 2, 1) := by decide +kernel
theorem dL_act_32 : decode cL_act 32 = .ok (.if_icmp .ne 12, 3) := by decide +kernel
theorem dL_act_35 : decode cL_act 35 = .ok (.aload_n 0, 1) := by decide +kernel
theorem dL_act_36 : decode cL_act 36 = .ok (.iload_n 2, 1) := by decide +kernel
theorem dL_act_37 : decode cL_act 37 = .ok (.iload_n 3, 1) := by decide +kernel
theorem dL_act_38 : decode cL_act 38 = .ok (.invokevirtual 17, 3) := by decide +kernel
theorem dL_act_41 : decode cL_act 41 = .ok (.goto 265, 3) := by decide +kernel
theorem dL_act_44 : decode cL_act 44 = .ok (.iload_n 1, 1) := by decide +kernel
theorem dL_act_45 : decode cL_act 45 = .ok (.iconst 3, 1) := by decide +kernel
theorem dL_act_46 : decode cL_act 46 = .ok (.if_icmp .ne 14, 3) := by decide +kernel
theorem dL_act_49 : decode cL_act 49 = .ok (.aload_n 0, 1) := by decide +kernel
theorem dL_act_50 : decode cL_act 50 = .ok (.iload_n 2, 1) := by decide +kernel
theorem dL_act_51 : decode cL_act 51 = .ok (.iload_n 3, 1) := by decide +kernel
theorem dL_act_52 : decode cL_act 52 = .ok (.iload 4, 2) := by decide +kernel
theorem dL_act_54 : decode cL_act 54 = .ok (.invokevirtual 21, 3) := by decide +kernel
theorem dL_act_57 : decode cL_act 57 = .ok (.goto 249, 3) := by decide +kernel
theorem dL_act_60 : decode cL_act 60 = .ok (.iload_n 1, 1) := by decide +kernel
theorem dL_act_61 : decode cL_act 61 = .ok (.iconst 4, 1) := by decide +kernel
theorem dL_act_62 : decode cL_act 62 = .ok (.if_icmp .ne 12, 3) := by decide +kernel
theorem dL_act_65 : decode cL_act 65 = .ok (.aload_n 0, 1) := by decide +kernel
theorem dL_act_66 : decode cL_act 66 = .ok (.iload_n 2, 1) := by decide +kernel
theorem dL_act_67 : decode cL_act 67 = .ok (.iload_n 3, 1) := by decide +kernel
theorem dL_act_68 : decode cL_act 68 = .ok (.invokevirtual 25, 3) := by decide +kernel
theorem dL_act_71 : decode cL_act 71 = .ok (.goto 235, 3) := by decide +kernel
theorem dL_act_74 : decode cL_act 74 = .ok (.iload_n 1, 1) := by decide +kernel
theorem dL_act_75 : decode cL_act 75 = .ok (.iconst 5, 1) := by decide +kernel
theorem dL_act_76 : decode cL_act 76 = .ok (.if_icmp .ne 11, 3) := by decide +kernel
theorem dL_act_79 : decode cL_act 79 = .ok (.aload_n 0, 1) := by decide +kernel
theorem dL_act_80 : decode cL_act 80 = .ok (.iload_n 2, 1) := by decide +kernel
theorem dL_act_81 : decode cL_act 81 = .ok (.invokevirtual 28, 3) := by decide +kernel
theorem dL_act_84 : decode cL_act 84 = .ok (.goto 222, 3) := by decide +kernel
theorem dL_act_87 : decode cL_act 87 = .ok (.iload_n 1, 1) := by decide +kernel
theorem dL_act_88 : decode cL_act 88 = .ok (.bipush 6, 2) := by decide +kernel
theorem dL_act_90 : decode cL_act 90 = .ok (.if_icmp .ne 14, 3) := by decide +kernel
theorem dL_act_93 : decode cL_act 93 = .ok (.aload_n 0, 1) := by decide +kernel
theorem dL_act_94 : decode cL_act 94 = .ok (.iload_n 2, 1) := by decide +kernel
theorem dL_act_95 : decode cL_act 95 = .ok (.iload_n 3, 1) := by decide +kernel
theorem dL_act_96 : decode cL_act 96 = .ok (.iload 4, 2) := by decide +kernel
theorem dL_act_98 : decode cL_act 98 = .ok (.invokevirtual 31, 3) := by decide +kernel
theorem dL_act_101 : decode cL_act 101 = .ok (.goto 205, 3) := by decide +kernel
theorem dL_act_104 : decode cL_act 104 = .ok (.iload_n 1, 1) := by decide +kernel
theorem dL_act_105 : decode cL_act 105 = .ok (.bipush 7, 2) := by decide +kernel
theorem dL_act_107 : decode cL_act 107 = .ok (.if_icmp .ne 14, 3) := by decide +kernel
theorem dL_act_110 : decode cL_act 110 = .ok (.aload_n 0, 1) := by decide +kernel
theorem dL_act_111 : decode cL_act 111 = .ok (.iload_n 2, 1) := by decide +kernel
theorem dL_act_112 : decode cL_act 112 = .ok (.iload_n 3, 1) := by decide +kernel
theorem dL_act_113 : decode cL_act 113 = .ok (.iload 4, 2) := by decide +kernel
theorem dL_act_115 : decode cL_act 115 = .ok (.invokevirtual 34, 3) := by decide +kernel
theorem dL_act_118 : decode cL_act 118 = .ok (.goto 188, 3) := by decide +kernel
theorem dL_act_121 : decode cL_act 121 = .ok (.iload_n 1, 1) := by decide +kernel
theorem dL_act_122 : decode cL_act 122 = .ok (.bipush 8, 2) := by decide +kernel
theorem dL_act_124 : decode cL_act 124 = .ok (.if_icmp .ne 14, 3) := by decide +kernel
theorem dL_act_127 : decode cL_act 127 = .ok (.aload_n 0, 1) := by decide +kernel
theorem dL_act_128 : decode cL_act 128 = .ok (.iload_n 2, 1) := by decide +kernel
theorem dL_act_129 : decode cL_act 129 = .ok (.iload_n 3, 1) := by decide +kernel
theorem dL_act_130 : decode cL_act 130 = .ok (.iload 4, 2) := by decide +kernel
theorem dL_act_132 : decode cL_act 132 = .ok (.invokevirtual 37, 3) := by decide +kernel
theorem dL_act_135 : decode cL_act 135 = .ok (.goto 171, 3) := by decide +kernel
theorem dL_act_138 : decode cL_act 138 = .ok (.iload_n 1, 1) := by decide +kernel
theorem dL_act_139 : decode cL_act 139 = .ok (.bipush 9, 2) := by decide +kernel
theorem dL_act_141 : decode cL_act 141 = .ok (.if_icmp .ne 12, 3) := by decide +kernel
theorem dL_act_144 : decode cL_act 144 = .ok (.aload_n 0, 1) := by decide +kernel
theorem dL_act_145 : decode cL_act 145 = .ok (.iload_n 2, 1) := by decide +kernel
theorem dL_act_146 : decode cL_act 146 = .ok (.iload_n 3, 1) := by decide +kernel
theorem dL_act_147 : decode cL_act 147 = .ok (.invokevirtual 40, 3) := by decide +kernel
theorem dL_act_150 : decode cL_act 150 = .ok (.goto 156, 3) := by decide +kernel
theorem dL_act_153 : decode cL_act 153 = .ok (.iload_n 1, 1) := by decide +kernel
theorem dL_act_154 : decode cL_act 154 = .ok (.bipush 10, 2) := by decide +kernel
theorem dL_act_156 : decode cL_act 156 = .ok (.if_icmp .ne 12, 3) := by decide +kernel
theorem dL_act_159 : decode cL_act 159 = .ok (.aload_n 0, 1) := by decide +kernel
theorem dL_act_160 : decode cL_act 160 = .ok (.iload_n 2, 1) := by decide +kernel
theorem dL_act_161 : decode cL_act 161 = .ok (.iload_n 3, 1) := by decide +kernel
theorem dL_act_162 : decode cL_act 162 = .ok (.invokevirtual 43, 3) := by decide +kernel
theorem dL_act_165 : decode cL_act 165 = .ok (.goto 141, 3) := by decide +kernel
theorem dL_act_168 : decode cL_act 168 = .ok (.iload_n 1, 1) := by decide +kernel
theorem dL_act_169 : decode cL_act 169 = .ok (.bipush 11, 2) := by decide +kernel
theorem dL_act_171 : decode cL_act 171 = .ok (.if_icmp .ne 12, 3) := by decide +kernel
theorem dL_act_174 : decode cL_act 174 = .ok (.aload_n 0, 1) := by decide +kernel
theorem dL_act_175 : decode cL_act 175 = .ok (.iload_n 2, 1) := by decide +kernel
theorem dL_act_176 : decode cL_act 176 = .ok (.iload_n 3, 1) := by decide +kernel
theorem dL_act_177 : decode cL_act 177 = .ok (.invokevirtual 46, 3) := by decide +kernel
theorem dL_act_180 : decode cL_act 180 = .ok (.goto 126, 3) := by decide +kernel
theorem dL_act_183 : decode cL_act 183 = .ok (.iload_n 1, 1) := by decide +kernel
theorem dL_act_184 : decode cL_act 184 = .ok (.bipush 12, 2) := by decide +kernel
theorem dL_act_186 : decode cL_act 186 = .ok (.if_icmp .ne 12, 3) := by decide +kernel
theorem dL_act_189 : decode cL_act 189 = .ok (.aload_n 0, 1) := by decide +kernel
theorem dL_act_190 : decode cL_act 190 = .ok (.iload_n 2, 1) := by decide +kernel
theorem dL_act_191 : decode cL_act 191 = .ok (.iload_n 3, 1) := by decide +kernel
theorem dL_act_192 : decode cL_act 192 = .ok (.invokevirtual 49, 3) := by decide +kernel
theorem dL_act_195 : decode cL_act 195 = .ok (.goto 111, 3) := by decide +kernel
theorem dL_act_198 : decode cL_act 198 = .ok (.iload_n 1, 1) := by decide +kernel
theorem dL_act_199 : decode cL_act 199 = .ok (.bipush 13, 2) := by decide +kernel
theorem dL_act_201 : decode cL_act 201 = .ok (.if_icmp .ne 12, 3) := by decide +kernel
theorem dL_act_204 : decode cL_act 204 = .ok (.aload_n 0, 1) := by decide +kernel
theorem dL_act_205 : decode cL_act 205 = .ok (.iload_n 2, 1) := by decide +kernel
theorem dL_act_206 : decode cL_act 206 = .ok (.iload_n 3, 1) := by decide +kernel
theorem dL_act_207 : decode cL_act 207 = .ok (.invokevirtual 52, 3) := by decide +kernel
theorem dL_act_210 : decode cL_act 210 = .ok (.goto 96, 3) := by decide +kernel
theorem dL_act_213 : decode cL_act 213 = .ok (.iload_n 1, 1) := by decide +kernel
theorem dL_act_214 : decode cL_act 214 = .ok (.bipush 14, 2) := by decide +kernel
theorem dL_act_216 : decode cL_act 216 = .ok (.if_icmp .ne 16, 3) := by decide +kernel
theorem dL_act_219 : decode cL_act 219 = .ok (.aload_n 0, 1) := by decide +kernel
theorem dL_act_220 : decode cL_act 220 = .ok (.iload_n 2, 1) := by decide +kernel
theorem dL_act_221 : decode cL_act 221 = .ok (.iload_n 3, 1) := by decide +kernel
theorem dL_act_222 : decode cL_act 222 = .ok (.iload 4, 2) := by decide +kernel
theorem dL_act_224 : decode cL_act 224 = .ok (.iload 5, 2) := by decide +kernel
theorem dL_act_226 : decode cL_act 226 = .ok (.invokevirtual 55, 3) := by decide +kernel
theorem dL_act_229 : decode cL_act 229 = .ok (.goto 77, 3) := by decide +kernel
theorem dL_act_232 : decode cL_act 232 = .ok (.iload_n 1, 1) := by decide +kernel
theorem dL_act_233 : decode cL_act 233 = .ok (.bipush 15, 2) := by decide +kernel
theorem dL_act_235 : decode cL_act 235 = .ok (.if_icmp .ne 16, 3) := by decide +kernel
theorem dL_act_238 : decode cL_act 238 = .ok (.aload_n 0, 1) := by decide +kernel
theorem dL_act_239 : decode cL_act 239 = .ok (.iload_n 2, 1) := by decide +kernel
theorem dL_act_240 : decode cL_act 240 = .ok (.iload_n 3, 1) := by decide +kernel
theorem dL_act_241 : decode cL_act 241 = .ok (.iload 4, 2) := by decide +kernel
theorem dL_act_243 : decode cL_act 243 = .ok (.iload 5, 2) := by decide +kernel
theorem dL_act_245 : decode cL_act 245 = .ok (.invokevirtual 58, 3) := by decide +kernel
theorem dL_act_248 : decode cL_act 248 = .ok (.goto 58, 3) := by decide +kernel
theorem dL_act_251 : decode cL_act 251 = .ok (.iload_n 1, 1) := by decide +kernel
theorem dL_act_252 : decode cL_act 252 = .ok (.bipush 16, 2) := by decide +kernel
theorem dL_act_254 : decode cL_act 254 = .ok (.if_icmp .ne 14, 3) := by decide +kernel
theorem dL_act_257 : decode cL_act 257 = .ok (.aload_n 0, 1) := by decide +kernel
theorem dL_act_258 : decode cL_act 258 = .ok (.iload_n 2, 1) := by decide +kernel
theorem dL_act_259 : decode cL_act 259 = .ok (.iload_n 3, 1) := by decide +kernel
theorem dL_act_260 : decode cL_act 260 = .ok (.iload 4, 2) := by decide +kernel
theorem dL_act_262 : decode cL_act 262 = .ok (.invokevirtual 61, 3) := by decide +kernel
theorem dL_act_265 : decode cL_act 265 = .ok (.goto 41, 3) := by decide +kernel
theorem dL_act_268 : decode cL_act 268 = .ok (.iload_n 1, 1) := by decide +kernel
theorem dL_act_269 : decode cL_act 269 = .ok (.bipush 17, 2) := by decide +kernel
theorem dL_act_271 : decode cL_act 271 = .ok (.if_icmp .ne 14, 3) := by decide +kernel
theorem dL_act_274 : decode cL_act 274 = .ok (.aload_n 0, 1) := by decide +kernel
theorem dL_act_275 : decode cL_act 275 = .ok (.iload_n 2, 1) := by decide +kernel
theorem dL_act_276 : decode cL_act 276 = .ok (.iload_n 3, 1) := by decide +kernel
theorem dL_act_277 : decode cL_act 277 = .ok (.iload 4, 2) := by decide +kernel
theorem dL_act_279 : decode cL_act 279 = .ok (.invokevirtual 64, 3) := by decide +kernel
theorem dL_act_282 : decode cL_act 282 = .ok (.goto 24, 3) := by decide +kernel
theorem dL_act_285 : decode cL_act 285 = .ok (.iload_n 1, 1) := by decide +kernel
theorem dL_act_286 : decode cL_act 286 = .ok (.bipush 18, 2) := by decide +kernel
theorem dL_act_288 : decode cL_act 288 = .ok (.if_icmp .ne 12, 3) := by decide +kernel
theorem dL_act_291 : decode cL_act 291 = .ok (.aload_n 0, 1) := by decide +kernel
theorem dL_act_292 : decode cL_act 292 = .ok (.iload_n 2, 1) := by decide +kernel
theorem dL_act_293 : decode cL_act 293 = .ok (.iload_n 3, 1) := by decide +kernel
theorem dL_act_294 : decode cL_act 294 = .ok (.invokevirtual 67, 3) := by decide +kernel
theorem dL_act_297 : decode cL_act 297 = .ok (.goto 9, 3) := by decide +kernel
theorem dL_act_300 : decode cL_act 300 = .ok (.aload_n 0, 1) := by decide +kernel
theorem dL_act_301 : decode cL_act 301 = .ok (.iload_n 2, 1) := by decide +kernel
theorem dL_act_302 : decode cL_act 302 = .ok (.iload_n 3, 1) := by decide +kernel
theorem dL_act_303 : decode cL_act 303 = .ok (.invokevirtual 70, 3) := by decide +kernel
theorem dL_act_306 : decode cL_act 306 = .ok (.ireturn, 1) := by decide +kernel
theorem dL_act_307 : decode cL_act 307 = .ok (.astore 6, 2) := by decide +kernel
theorem dL_act_309 : decode cL_act 309 = .ok (.ldc 75, 2) := by decide +kernel
theorem dL_act_311 : decode cL_act 311 = .ok (.ireturn, 1) := by decide +kernel
theorem dL_act_312 : decode cL_act 312 = .ok (.astore 6, 2) := by decide +kernel
theorem dL_act_314 : decode cL_act 314 = .ok (.ldc 78, 2) := by decide +kernel
theorem dL_act_316 : decode cL_act 316 = .ok (.ireturn, 1) := by decide +kernel
theorem dL_act_317 : decode cL_act 317 = .ok (.astore 6, 2) := by decide +kernel
theorem dL_act_319 : decode cL_act 319 = .ok (.ldc 81, 2) := by decide +kernel
theorem dL_act_321 : decode cL_act 321 = .ok (.ireturn, 1) := by decide +kernel
set_option maxRecDepth 20000 in
theorem ggL_refuses_X11_ofNet : GoodIn wsL_refuses wsX11_ofNet := goodIn_ca (goodIn_ca (goodIn_r _ [12, 13, 14, 15, 16, 17, 18, 11, 19, 20, 21, 22, 23, 24, 25, 26, 27, 28, 29, 30, 31, 32, 33, 34, 35, 36, 37, 38, 39, 40, 41, 42, 43, 44, 45, 46, 47, 48, 49, 50, 51, 52, 53, 54, 55, 56, 57, 58, 59, 60, 61, 62, 63, 64, 65, 66, 67, 68, 69, 70, 71, 72, 73, 74, 75, 76, 77, 78, 79, 80, 81, 82, 83, 84, 85, 86, 87, 88, 89, 90, 91, 92, 93, 94, 95, 96, 97, 98, 99, 100, 101, 102, 103, 104, 105, 106, 107, 108, 109, 110, 111, 112, 113, 114, 115, 116, 117, 118, 119, 120, 121, 122, 123, 124, 125, 126, 127, 128, 129, 130, 131, 132, 133, 134, 135, 136, 137, 138, 139, 140, 141, 142, 574, 575, 576, 577, 578, 579, 580, 581, 582, 583, 584, 585, 586, 587, 588, 589, 590, 591, 592, 593, 594, 595, 596, 597, 598, 599] (by decide +kernel) (by decide +kernel)) (goodIn_sub (fun _ h => List.mem_cons_of_mem _ (List.mem_append_left _ (List.mem_append_left _ (List.mem_append_right _ h)))) (by decide +kernel))) (goodIn_sub (fun _ h => List.mem_cons_of_mem _ (List.mem_append_left _ (List.mem_append_right _ h))) (by decide +kernel))
set_option maxRecDepth 20000 in
theorem gL_refuses_X11_ofNet : GoodIn wsL_refuses (wsV RL 46 RX11 yX11_ofNet wsX11_ofNet) := goodIn_app (goodIn_of _ (by decide +kernel)) ggL_refuses_X11_ofNet
set_option maxRecDepth 20000 in
theorem ggL_refuses_L_act : GoodIn wsL_refuses wsL_act := goodIn_ca (goodIn_ca (goodIn_ca (goodIn_r _ [146, 147, 148, 149, 5, 6, 7, 150, 151, 152, 11, 153, 154, 155, 16, 17, 18, 19, 20, 21, 22, 156, 157, 158, 31, 159, 33, 34, 35, 36, 37, 38, 160, 161, 162, 163, 164, 165, 166, 167, 53, 82, 88, 168, 169, 91, 92, 57, 93, 59, 170, 171, 172, 173, 174, 175, 176, 177, 178, 179, 180, 181, 182, 183, 184, 185, 186, 187, 188, 189, 190, 191, 39, 40, 41, 42, 43, 192, 193, 194, 195, 107, 196, 197, 198, 199, 200, 23, 24, 25, 26, 27, 201, 202, 203, 28, 29, 30, 32, 204, 205, 206, 207, 208, 209, 210, 211, 212, 213, 214, 215, 216, 217, 218, 219, 220, 221, 222, 223, 224, 225, 226, 227, 228, 229, 230, 231, 232, 233, 234, 235, 236, 237, 238, 239, 240, 241, 242, 243, 126, 55, 56, 58, 244, 245, 246, 247, 248, 249, 250, 251, 252, 253, 254, 255, 256, 257, 258, 259, 260, 261, 262, 263, 264, 265, 266, 267, 268, 269, 270, 271, 272, 273, 274, 275, 276, 277, 278, 14, 48, 64, 279, 280, 281, 282, 283, 284, 285, 286, 287, 54, 288, 289, 290, 291, 292, 293, 294, 295, 296, 297, 298, 299, 300, 301, 302, 303, 304, 305, 306, 307, 308, 309, 310, 50, 51, 52, 311, 312, 313, 314, 315, 316, 317, 318, 319, 61, 62, 63, 320, 79, 80, 81, 321, 322, 323, 324, 325, 326, 327, 85, 86, 87, 328, 329, 330, 331, 332, 333, 334, 335, 336, 337, 104, 105, 106, 338, 339, 340, 341, 342, 343, 344, 345, 346, 347, 348, 349, 350, 351, 352, 353, 15, 354, 355, 356, 357, 111, 358, 137, 359, 115, 116, 117, 118, 138, 139, 140, 141, 142, 119, 132, 120, 121, 128, 360, 361, 362, 363, 364, 129, 8, 9, 10, 12, 13, 44, 45, 46, 47, 49, 60, 65, 66, 67, 68, 69, 70, 71, 72, 73, 74, 75, 76, 77, 78, 83, 84, 89, 90, 94, 95, 96, 97, 98, 99, 100, 101, 102, 103, 108, 109, 110, 112, 113, 114, 122, 123, 124, 125, 127, 130, 131, 133, 134, 135, 136, 365, 366, 367, 368, 369, 370, 371, 372, 373, 374, 375, 376, 377, 378, 379, 380, 381, 382, 383, 384, 385, 386, 387, 388, 389, 390, 391, 392, 393, 394, 395, 396, 397, 398, 399, 400, 401, 402, 403, 404, 405, 406, 407, 408, 409, 410, 411, 412, 413, 414, 415, 416, 417, 418, 419, 420, 421, 422, 423, 424, 425, 426, 427, 428, 429, 430, 431, 432, 433, 434, 435, 436, 437, 438, 439, 440, 441, 442, 443, 444, 445, 446, 447, 448, 449, 450, 451, 452, 453, 454, 455, 456, 457, 458, 459, 460, 461, 462, 463, 464, 465, 466, 467, 468, 469, 470, 471, 472, 473, 474, 475, 476, 477, 478, 479, 480, 481, 482, 483, 484, 485, 486, 487, 488, 489, 490, 491, 492, 493, 494, 495, 496, 497, 498, 499, 500, 501, 502, 503, 504, 505, 506, 507, 508, 509, 510, 511, 512, 513, 514, 515, 516, 517, 518, 519, 520, 521, 522, 523, 524, 525, 526, 527, 528, 529, 530, 531, 532, 533, 534, 535, 536, 537, 538, 539, 540, 541, 542, 543, 544, 545, 546, 547, 548, 549, 550, 551, 552, 553, 554, 555, 556, 557, 558, 559, 560, 561, 562, 563, 564, 565, 566, 567, 568, 569, 570, 571, 572, 573, 574, 575, 576, 577, 578, 579, 580, 581, 582, 583, 584, 585, 586, 587, 588, 589, 590, 591, 592, 593, 594, 600, 601, 602, 603, 604, 605, 606, 607, 608, 609, 610, 611, 612, 597, 598, 599, 595, 596, 613, 614, 615, 616, 617, 618, 619, 620, 621, 622, 623] (by decide +kernel) (by decide +kernel)) (goodIn_sub (fun _ h => List.mem_cons_of_mem _ (List.mem_append_right _ h)) (by decide +kernel))) (goodIn_sub (fun _ h => List.mem_cons_of_mem _ (List.mem_append_left _ (List.mem_append_left _ (List.mem_append_right _ h)))) (by decide +kernel))) (goodIn_sub (fun _ h => List.mem_cons_of_mem _ (List.mem_append_left _ (List.mem_append_right _ h))) (by decide +kernel))
set_option maxRecDepth 20000 in
theorem gL_refuses_L_act : GoodIn wsL_refuses (va_wsS RL 86 yL_act wsL_act) := goodIn_app (goodIn_of _ (by decide +kernel)) ggL_refuses_L_act
theorem dL_refuses_0 : decode cL_refuses 0 = .ok (.ldc 82, 2) := by decide +kernel
theorem dL_refuses_2 : decode cL_refuses 2 = .ok (.istore_n 1, 1) := by decide +kernel
theorem dL_refuses_3 : decode cL_refuses 3 = .ok (.aload_n 0, 1) := by decide +kernel
theorem dL_refuses_4 : decode cL_refuses 4 = .ok (.iconst 0, 1) := by decide +kernel
theorem dL_refuses_5 : decode cL_refuses 5 = .ok (.iconst 0, 1) := by decide +kernel
theorem dL_refuses_6 : decode cL_refuses 6 = .ok (.invokevirtual 46, 3) := by decide +kernel
theorem dL_refuses_9 : decode cL_refuses 9 = .ok (.sipush 200, 3) := by decide +kernel
theorem dL_refuses_12 : decode cL_refuses 12 = .ok (.aload_n 0, 1) := by decide +kernel
theorem dL_refuses_13 : decode cL_refuses 13 = .ok (.iconst 1, 1) := by decide +kernel
theorem dL_refuses_14 : decode cL_refuses 14 = .ok (.iconst 0, 1) := by decide +kernel
theorem dL_refuses_15 : decode cL_refuses 15 = .ok (.invokevirtual 46, 3) := by decide +kernel
theorem dL_refuses_18 : decode cL_refuses 18 = .ok (.imul, 1) := by decide +kernel
theorem dL_refuses_19 : decode cL_refuses 19 = .ok (.iadd, 1) := by decide +kernel
theorem dL_refuses_20 : decode cL_refuses 20 = .ok (.ldc 83, 2) := by decide +kernel
theorem dL_refuses_22 : decode cL_refuses 22 = .ok (.aload_n 0, 1) := by decide +kernel
theorem dL_refuses_23 : decode cL_refuses 23 = .ok (.iconst 2, 1) := by decide +kernel
theorem dL_refuses_24 : decode cL_refuses 24 = .ok (.iconst 0, 1) := by decide +kernel
theorem dL_refuses_25 : decode cL_refuses 25 = .ok (.invokevirtual 46, 3) := by decide +kernel
theorem dL_refuses_28 : decode cL_refuses 28 = .ok (.imul, 1) := by decide +kernel
theorem dL_refuses_29 : decode cL_refuses 29 = .ok (.iadd, 1) := by decide +kernel
theorem dL_refuses_30 : decode cL_refuses 30 = .ok (.ldc 84, 2) := by decide +kernel
theorem dL_refuses_32 : decode cL_refuses 32 = .ok (.aload_n 0, 1) := by decide +kernel
theorem dL_refuses_33 : decode cL_refuses 33 = .ok (.iconst 3, 1) := by decide +kernel
theorem dL_refuses_34 : decode cL_refuses 34 = .ok (.iconst 0, 1) := by decide +kernel
theorem dL_refuses_35 : decode cL_refuses 35 = .ok (.invokevirtual 46, 3) := by decide +kernel
theorem dL_refuses_38 : decode cL_refuses 38 = .ok (.imul, 1) := by decide +kernel
theorem dL_refuses_39 : decode cL_refuses 39 = .ok (.iadd, 1) := by decide +kernel
theorem dL_refuses_40 : decode cL_refuses 40 = .ok (.istore_n 2, 1) := by decide +kernel
theorem dL_refuses_41 : decode cL_refuses 41 = .ok (.iconst 0, 1) := by decide +kernel
theorem dL_refuses_42 : decode cL_refuses 42 = .ok (.istore_n 3, 1) := by decide +kernel
theorem dL_refuses_43 : decode cL_refuses 43 = .ok (.iload_n 3, 1) := by decide +kernel
theorem dL_refuses_44 : decode cL_refuses 44 = .ok (.iconst 4, 1) := by decide +kernel
theorem dL_refuses_45 : decode cL_refuses 45 = .ok (.if_icmp .ge 1159, 3) := by decide +kernel
theorem dL_refuses_48 : decode cL_refuses 48 = .ok (.iload_n 3, 1) := by decide +kernel
theorem dL_refuses_49 : decode cL_refuses 49 = .ok (.ifCond .ne 7, 3) := by decide +kernel
theorem dL_refuses_52 : decode cL_refuses 52 = .ok (.iconst (-1), 1) := by decide +kernel
theorem dL_refuses_53 : decode cL_refuses 53 = .ok (.goto 16, 3) := by decide +kernel
theorem dL_refuses_56 : decode cL_refuses 56 = .ok (.iload_n 3, 1) := by decide +kernel
theorem dL_refuses_57 : decode cL_refuses 57 = .ok (.iconst 2, 1) := by decide +kernel
theorem dL_refuses_58 : decode cL_refuses 58 = .ok (.if_icmp .ne 7, 3) := by decide +kernel
theorem dL_refuses_61 : decode cL_refuses 61 = .ok (.iload_n 1, 1) := by decide +kernel
theorem dL_refuses_62 : decode cL_refuses 62 = .ok (.goto 7, 3) := by decide +kernel
theorem dL_refuses_65 : decode cL_refuses 65 = .ok (.iload_n 1, 1) := by decide +kernel
theorem dL_refuses_66 : decode cL_refuses 66 = .ok (.ineg, 1) := by decide +kernel
theorem dL_refuses_67 : decode cL_refuses 67 = .ok (.iconst 1, 1) := by decide +kernel
theorem dL_refuses_68 : decode cL_refuses 68 = .ok (.isub, 1) := by decide +kernel
theorem dL_refuses_69 : decode cL_refuses 69 = .ok (.istore 4, 2) := by decide +kernel
theorem dL_refuses_71 : decode cL_refuses 71 = .ok (.iload_n 3, 1) := by decide +kernel
theorem dL_refuses_72 : decode cL_refuses 72 = .ok (.iconst 1, 1) := by decide +kernel
theorem dL_refuses_73 : decode cL_refuses 73 = .ok (.if_icmp .ne 7, 3) := by decide +kernel
theorem dL_refuses_76 : decode cL_refuses 76 = .ok (.iconst 4, 1) := by decide +kernel
theorem dL_refuses_77 : decode cL_refuses 77 = .ok (.goto 5, 3) := by decide +kernel
theorem dL_refuses_80 : decode cL_refuses 80 = .ok (.iload 4, 2) := by decide +kernel
theorem dL_refuses_82 : decode cL_refuses 82 = .ok (.istore 5, 2) := by decide +kernel
theorem dL_refuses_84 : decode cL_refuses 84 = .ok (.iload_n 3, 1) := by decide +kernel
theorem dL_refuses_85 : decode cL_refuses 85 = .ok (.iconst 1, 1) := by decide +kernel
theorem dL_refuses_86 : decode cL_refuses 86 = .ok (.if_icmp .ne 8, 3) := by decide +kernel
theorem dL_refuses_89 : decode cL_refuses 89 = .ok (.ldc 85, 2) := by decide +kernel
theorem dL_refuses_91 : decode cL_refuses 91 = .ok (.goto 5, 3) := by decide +kernel
theorem dL_refuses_94 : decode cL_refuses 94 = .ok (.iload 4, 2) := by decide +kernel
theorem dL_refuses_96 : decode cL_refuses 96 = .ok (.istore 6, 2) := by decide +kernel
theorem dL_refuses_98 : decode cL_refuses 98 = .ok (.iload_n 3, 1) := by decide +kernel
theorem dL_refuses_99 : decode cL_refuses 99 = .ok (.iconst 2, 1) := by decide +kernel
theorem dL_refuses_100 : decode cL_refuses 100 = .ok (.if_icmp .ne 7, 3) := by decide +kernel
theorem dL_refuses_103 : decode cL_refuses 103 = .ok (.iconst (-1), 1) := by decide +kernel
theorem dL_refuses_104 : decode cL_refuses 104 = .ok (.goto 17, 3) := by decide +kernel
theorem dL_refuses_107 : decode cL_refuses 107 = .ok (.iload_n 3, 1) := by decide +kernel
theorem dL_refuses_108 : decode cL_refuses 108 = .ok (.iconst 1, 1) := by decide +kernel
theorem dL_refuses_109 : decode cL_refuses 109 = .ok (.if_icmp .ne 8, 3) := by decide +kernel
theorem dL_refuses_112 : decode cL_refuses 112 = .ok (.bipush (-2), 2) := by decide +kernel
theorem dL_refuses_114 : decode cL_refuses 114 = .ok (.goto 7, 3) := by decide +kernel
theorem dL_refuses_117 : decode cL_refuses 117 = .ok (.iload_n 1, 1) := by decide +kernel
theorem dL_refuses_118 : decode cL_refuses 118 = .ok (.ineg, 1) := by decide +kernel
theorem dL_refuses_119 : decode cL_refuses 119 = .ok (.iconst 1, 1) := by decide +kernel
theorem dL_refuses_120 : decode cL_refuses 120 = .ok (.isub, 1) := by decide +kernel
theorem dL_refuses_121 : decode cL_refuses 121 = .ok (.istore 7, 2) := by decide +kernel
theorem dL_refuses_123 : decode cL_refuses 123 = .ok (.aload_n 0, 1) := by decide +kernel
theorem dL_refuses_124 : decode cL_refuses 124 = .ok (.iconst 0, 1) := by decide +kernel
theorem dL_refuses_125 : decode cL_refuses 125 = .ok (.iload 5, 2) := by decide +kernel
theorem dL_refuses_127 : decode cL_refuses 127 = .ok (.iconst 0, 1) := by decide +kernel
theorem dL_refuses_128 : decode cL_refuses 128 = .ok (.iconst 0, 1) := by decide +kernel
theorem dL_refuses_129 : decode cL_refuses 129 = .ok (.iconst 0, 1) := by decide +kernel
theorem dL_refuses_130 : decode cL_refuses 130 = .ok (.invokestatic 86, 3) := by decide +kernel
theorem dL_refuses_133 : decode cL_refuses 133 = .ok (.ldc 75, 2) := by decide +kernel
theorem dL_refuses_135 : decode cL_refuses 135 = .ok (.if_icmp .ne 454, 3) := by decide +kernel
theorem dL_refuses_138 : decode cL_refuses 138 = .ok (.aload_n 0, 1) := by decide +kernel
theorem dL_refuses_139 : decode cL_refuses 139 = .ok (.iconst 1, 1) := by decide +kernel
theorem dL_refuses_140 : decode cL_refuses 140 = .ok (.iload 5, 2) := by decide +kernel
theorem dL_refuses_142 : decode cL_refuses 142 = .ok (.iconst 0, 1) := by decide +kernel
theorem dL_refuses_143 : decode cL_refuses 143 = .ok (.iconst 0, 1) := by decide +kernel
theorem dL_refuses_144 : decode cL_refuses 144 = .ok (.iconst 0, 1) := by decide +kernel
theorem dL_refuses_145 : decode cL_refuses 145 = .ok (.invokestatic 86, 3) := by decide +kernel
theorem dL_refuses_148 : decode cL_refuses 148 = .ok (.ldc 75, 2) := by decide +kernel
theorem dL_refuses_150 : decode cL_refuses 150 = .ok (.if_icmp .ne 439, 3) := by decide +kernel
theorem dL_refuses_153 : decode cL_refuses 153 = .ok (.aload_n 0, 1) := by decide +kernel
theorem dL_refuses_154 : decode cL_refuses 154 = .ok (.iconst 1, 1) := by decide +kernel
theorem dL_refuses_155 : decode cL_refuses 155 = .ok (.iconst 0, 1) := by decide +kernel
theorem dL_refuses_156 : decode cL_refuses 156 = .ok (.iload 5, 2) := by decide +kernel
theorem dL_refuses_158 : decode cL_refuses 158 = .ok (.iconst 0, 1) := by decide +kernel
theorem dL_refuses_159 : decode cL_refuses 159 = .ok (.iconst 0, 1) := by decide +kernel
theorem dL_refuses_160 : decode cL_refuses 160 = .ok (.invokestatic 86, 3) := by decide +kernel
theorem dL_refuses_163 : decode cL_refuses 163 = .ok (.ldc 75, 2) := by decide +kernel
theorem dL_refuses_165 : decode cL_refuses 165 = .ok (.if_icmp .ne 424, 3) := by decide +kernel
theorem dL_refuses_168 : decode cL_refuses 168 = .ok (.aload_n 0, 1) := by decide +kernel
theorem dL_refuses_169 : decode cL_refuses 169 = .ok (.iconst 2, 1) := by decide +kernel
theorem dL_refuses_170 : decode cL_refuses 170 = .ok (.iload 5, 2) := by decide +kernel
theorem dL_refuses_172 : decode cL_refuses 172 = .ok (.iconst 0, 1) := by decide +kernel
theorem dL_refuses_173 : decode cL_refuses 173 = .ok (.iconst 0, 1) := by decide +kernel
theorem dL_refuses_174 : decode cL_refuses 174 = .ok (.iconst 0, 1) := by decide +kernel
theorem dL_refuses_175 : decode cL_refuses 175 = .ok (.invokestatic 86, 3) := by decide +kernel
theorem dL_refuses_178 : decode cL_refuses 178 = .ok (.ldc 75, 2) := by decide +kernel
theorem dL_refuses_180 : decode cL_refuses 180 = .ok (.if_icmp .ne 409, 3) := by decide +kernel
theorem dL_refuses_183 : decode cL_refuses 183 = .ok (.aload_n 0, 1) := by decide +kernel
theorem dL_refuses_184 : decode cL_refuses 184 = .ok (.iconst 3, 1) := by decide +kernel
theorem dL_refuses_185 : decode cL_refuses 185 = .ok (.iload 5, 2) := by decide +kernel
theorem dL_refuses_187 : decode cL_refuses 187 = .ok (.bipush 9, 2) := by decide +kernel
theorem dL_refuses_189 : decode cL_refuses 189 = .ok (.bipush 9, 2) := by decide +kernel
theorem dL_refuses_191 : decode cL_refuses 191 = .ok (.iconst 0, 1) := by decide +kernel
theorem dL_refuses_192 : decode cL_refuses 192 = .ok (.invokestatic 86, 3) := by decide +kernel
theorem dL_refuses_195 : decode cL_refuses 195 = .ok (.ldc 75, 2) := by decide +kernel
theorem dL_refuses_197 : decode cL_refuses 197 = .ok (.if_icmp .ne 392, 3) := by decide +kernel
theorem dL_refuses_200 : decode cL_refuses 200 = .ok (.aload_n 0, 1) := by decide +kernel
theorem dL_refuses_201 : decode cL_refuses 201 = .ok (.iconst 3, 1) := by decide +kernel
theorem dL_refuses_202 : decode cL_refuses 202 = .ok (.iconst 0, 1) := by decide +kernel
theorem dL_refuses_203 : decode cL_refuses 203 = .ok (.iload_n 3, 1) := by decide +kernel
theorem dL_refuses_204 : decode cL_refuses 204 = .ok (.iconst 1, 1) := by decide +kernel
theorem dL_refuses_205 : decode cL_refuses 205 = .ok (.if_icmp .ne 7, 3) := by decide +kernel
theorem dL_refuses_208 : decode cL_refuses 208 = .ok (.iconst 3, 1) := by decide +kernel
theorem dL_refuses_209 : decode cL_refuses 209 = .ok (.goto 5, 3) := by decide +kernel
theorem dL_refuses_212 : decode cL_refuses 212 = .ok (.iload 4, 2) := by decide +kernel
theorem dL_refuses_214 : decode cL_refuses 214 = .ok (.iconst 1, 1) := by decide +kernel
theorem dL_refuses_215 : decode cL_refuses 215 = .ok (.iconst 0, 1) := by decide +kernel
theorem dL_refuses_216 : decode cL_refuses 216 = .ok (.invokestatic 86, 3) := by decide +kernel
theorem dL_refuses_219 : decode cL_refuses 219 = .ok (.ldc 78, 2) := by decide +kernel
theorem dL_refuses_221 : decode cL_refuses 221 = .ok (.if_icmp .ne 368, 3) := by decide +kernel
theorem dL_refuses_224 : decode cL_refuses 224 = .ok (.aload_n 0, 1) := by decide +kernel
theorem dL_refuses_225 : decode cL_refuses 225 = .ok (.iconst 3, 1) := by decide +kernel
theorem dL_refuses_226 : decode cL_refuses 226 = .ok (.iconst 0, 1) := by decide +kernel
theorem dL_refuses_227 : decode cL_refuses 227 = .ok (.iconst 0, 1) := by decide +kernel
theorem dL_refuses_228 : decode cL_refuses 228 = .ok (.iload_n 3, 1) := by decide +kernel
theorem dL_refuses_229 : decode cL_refuses 229 = .ok (.ifCond .ne 7, 3) := by decide +kernel
theorem dL_refuses_232 : decode cL_refuses 232 = .ok (.iconst 0, 1) := by decide +kernel
theorem dL_refuses_233 : decode cL_refuses 233 = .ok (.goto 15, 3) := by decide +kernel
theorem dL_refuses_236 : decode cL_refuses 236 = .ok (.iload_n 3, 1) := by decide +kernel
theorem dL_refuses_237 : decode cL_refuses 237 = .ok (.iconst 1, 1) := by decide +kernel
theorem dL_refuses_238 : decode cL_refuses 238 = .ok (.if_icmp .ne 8, 3) := by decide +kernel
theorem dL_refuses_241 : decode cL_refuses 241 = .ok (.bipush 7, 2) := by decide +kernel
theorem dL_refuses_243 : decode cL_refuses 243 = .ok (.goto 5, 3) := by decide +kernel
theorem dL_refuses_246 : decode cL_refuses 246 = .ok (.iload 4, 2) := by decide +kernel
theorem dL_refuses_248 : decode cL_refuses 248 = .ok (.iconst 0, 1) := by decide +kernel
theorem dL_refuses_249 : decode cL_refuses 249 = .ok (.invokestatic 86, 3) := by decide +kernel
theorem dL_refuses_252 : decode cL_refuses 252 = .ok (.ldc 78, 2) := by decide +kernel
theorem dL_refuses_254 : decode cL_refuses 254 = .ok (.if_icmp .ne 335, 3) := by decide +kernel
theorem dL_refuses_257 : decode cL_refuses 257 = .ok (.aload_n 0, 1) := by decide +kernel
theorem dL_refuses_258 : decode cL_refuses 258 = .ok (.iconst 4, 1) := by decide +kernel
theorem dL_refuses_259 : decode cL_refuses 259 = .ok (.iload 5, 2) := by decide +kernel
theorem dL_refuses_261 : decode cL_refuses 261 = .ok (.bipush 9, 2) := by decide +kernel
theorem dL_refuses_263 : decode cL_refuses 263 = .ok (.iconst 0, 1) := by decide +kernel
theorem dL_refuses_264 : decode cL_refuses 264 = .ok (.iconst 0, 1) := by decide +kernel
theorem dL_refuses_265 : decode cL_refuses 265 = .ok (.invokestatic 86, 3) := by decide +kernel
theorem dL_refuses_268 : decode cL_refuses 268 = .ok (.ldc 75, 2) := by decide +kernel
theorem dL_refuses_270 : decode cL_refuses 270 = .ok (.if_icmp .ne 319, 3) := by decide +kernel
theorem dL_refuses_273 : decode cL_refuses 273 = .ok (.aload_n 0, 1) := by decide +kernel
theorem dL_refuses_274 : decode cL_refuses 274 = .ok (.iconst 4, 1) := by decide +kernel
theorem dL_refuses_275 : decode cL_refuses 275 = .ok (.iconst 0, 1) := by decide +kernel
theorem dL_refuses_276 : decode cL_refuses 276 = .ok (.iload_n 3, 1) := by decide +kernel
theorem dL_refuses_277 : decode cL_refuses 277 = .ok (.ifCond .ne 7, 3) := by decide +kernel
theorem dL_refuses_280 : decode cL_refuses 280 = .ok (.iconst 0, 1) := by decide +kernel
theorem dL_refuses_281 : decode cL_refuses 281 = .ok (.goto 14, 3) := by decide +kernel
theorem dL_refuses_284 : decode cL_refuses 284 = .ok (.iload_n 3, 1) := by decide +kernel
theorem dL_refuses_285 : decode cL_refuses 285 = .ok (.iconst 1, 1) := by decide +kernel
theorem dL_refuses_286 : decode cL_refuses 286 = .ok (.if_icmp .ne 7, 3) := by decide +kernel
theorem dL_refuses_289 : decode cL_refuses 289 = .ok (.iconst 5, 1) := by decide +kernel
theorem dL_refuses_290 : decode cL_refuses 290 = .ok (.goto 5, 3) := by decide +kernel
theorem dL_refuses_293 : decode cL_refuses 293 = .ok (.iload 4, 2) := by decide +kernel
theorem dL_refuses_295 : decode cL_refuses 295 = .ok (.iconst 0, 1) := by decide +kernel
theorem dL_refuses_296 : decode cL_refuses 296 = .ok (.iconst 0, 1) := by decide +kernel
theorem dL_refuses_297 : decode cL_refuses 297 = .ok (.invokestatic 86, 3) := by decide +kernel
theorem dL_refuses_300 : decode cL_refuses 300 = .ok (.ldc 78, 2) := by decide +kernel
theorem dL_refuses_302 : decode cL_refuses 302 = .ok (.if_icmp .ne 287, 3) := by decide +kernel
theorem dL_refuses_305 : decode cL_refuses 305 = .ok (.aload_n 0, 1) := by decide +kernel
theorem dL_refuses_306 : decode cL_refuses 306 = .ok (.iconst 5, 1) := by decide +kernel
theorem dL_refuses_307 : decode cL_refuses 307 = .ok (.iload 5, 2) := by decide +kernel
theorem dL_refuses_309 : decode cL_refuses 309 = .ok (.iconst 0, 1) := by decide +kernel
theorem dL_refuses_310 : decode cL_refuses 310 = .ok (.iconst 0, 1) := by decide +kernel
theorem dL_refuses_311 : decode cL_refuses 311 = .ok (.iconst 0, 1) := by decide +kernel
theorem dL_refuses_312 : decode cL_refuses 312 = .ok (.invokestatic 86, 3) := by decide +kernel
theorem dL_refuses_315 : decode cL_refuses 315 = .ok (.ldc 75, 2) := by decide +kernel
theorem dL_refuses_317 : decode cL_refuses 317 = .ok (.if_icmp .ne 272, 3) := by decide +kernel
theorem dL_refuses_320 : decode cL_refuses 320 = .ok (.aload_n 0, 1) := by decide +kernel
theorem dL_refuses_321 : decode cL_refuses 321 = .ok (.bipush 6, 2) := by decide +kernel
theorem dL_refuses_323 : decode cL_refuses 323 = .ok (.iload 5, 2) := by decide +kernel
theorem dL_refuses_325 : decode cL_refuses 325 = .ok (.iconst 0, 1) := by decide +kernel
theorem dL_refuses_326 : decode cL_refuses 326 = .ok (.bipush 100, 2) := by decide +kernel
theorem dL_refuses_328 : decode cL_refuses 328 = .ok (.iconst 0, 1) := by decide +kernel
theorem dL_refuses_329 : decode cL_refuses 329 = .ok (.invokestatic 86, 3) := by decide +kernel
theorem dL_refuses_332 : decode cL_refuses 332 = .ok (.ldc 75, 2) := by decide +kernel
theorem dL_refuses_334 : decode cL_refuses 334 = .ok (.if_icmp .ne 255, 3) := by decide +kernel
theorem dL_refuses_337 : decode cL_refuses 337 = .ok (.aload_n 0, 1) := by decide +kernel
theorem dL_refuses_338 : decode cL_refuses 338 = .ok (.bipush 6, 2) := by decide +kernel
theorem dL_refuses_340 : decode cL_refuses 340 = .ok (.iconst 0, 1) := by decide +kernel
theorem dL_refuses_341 : decode cL_refuses 341 = .ok (.iload_n 3, 1) := by decide +kernel
theorem dL_refuses_342 : decode cL_refuses 342 = .ok (.ifCond .ne 7, 3) := by decide +kernel
theorem dL_refuses_345 : decode cL_refuses 345 = .ok (.iconst 0, 1) := by decide +kernel
theorem dL_refuses_346 : decode cL_refuses 346 = .ok (.goto 15, 3) := by decide +kernel
theorem dL_refuses_349 : decode cL_refuses 349 = .ok (.iload_n 3, 1) := by decide +kernel
theorem dL_refuses_350 : decode cL_refuses 350 = .ok (.iconst 1, 1) := by decide +kernel
theorem dL_refuses_351 : decode cL_refuses 351 = .ok (.if_icmp .ne 8, 3) := by decide +kernel
theorem dL_refuses_354 : decode cL_refuses 354 = .ok (.bipush 10, 2) := by decide +kernel
theorem dL_refuses_356 : decode cL_refuses 356 = .ok (.goto 5, 3) := by decide +kernel
theorem dL_refuses_359 : decode cL_refuses 359 = .ok (.iload 4, 2) := by decide +kernel
theorem dL_refuses_361 : decode cL_refuses 361 = .ok (.iconst 1, 1) := by decide +kernel
theorem dL_refuses_362 : decode cL_refuses 362 = .ok (.iconst 0, 1) := by decide +kernel
theorem dL_refuses_363 : decode cL_refuses 363 = .ok (.invokestatic 86, 3) := by decide +kernel
theorem dL_refuses_366 : decode cL_refuses 366 = .ok (.ldc 78, 2) := by decide +kernel
theorem dL_refuses_368 : decode cL_refuses 368 = .ok (.if_icmp .ne 221, 3) := by decide +kernel
theorem dL_refuses_371 : decode cL_refuses 371 = .ok (.aload_n 0, 1) := by decide +kernel
theorem dL_refuses_372 : decode cL_refuses 372 = .ok (.bipush 6, 2) := by decide +kernel
theorem dL_refuses_374 : decode cL_refuses 374 = .ok (.iconst 0, 1) := by decide +kernel
theorem dL_refuses_375 : decode cL_refuses 375 = .ok (.iconst 1, 1) := by decide +kernel
theorem dL_refuses_376 : decode cL_refuses 376 = .ok (.iload_n 3, 1) := by decide +kernel
theorem dL_refuses_377 : decode cL_refuses 377 = .ok (.iconst 1, 1) := by decide +kernel
theorem dL_refuses_378 : decode cL_refuses 378 = .ok (.if_icmp .ne 8, 3) := by decide +kernel
theorem dL_refuses_381 : decode cL_refuses 381 = .ok (.bipush 100, 2) := by decide +kernel
theorem dL_refuses_383 : decode cL_refuses 383 = .ok (.goto 5, 3) := by decide +kernel
theorem dL_refuses_386 : decode cL_refuses 386 = .ok (.iload 4, 2) := by decide +kernel
theorem dL_refuses_388 : decode cL_refuses 388 = .ok (.iconst 0, 1) := by decide +kernel
theorem dL_refuses_389 : decode cL_refuses 389 = .ok (.invokestatic 86, 3) := by decide +kernel
theorem dL_refuses_392 : decode cL_refuses 392 = .ok (.ldc 78, 2) := by decide +kernel
theorem dL_refuses_394 : decode cL_refuses 394 = .ok (.if_icmp .ne 195, 3) := by decide +kernel
theorem dL_refuses_397 : decode cL_refuses 397 = .ok (.aload_n 0, 1) := by decide +kernel
theorem dL_refuses_398 : decode cL_refuses 398 = .ok (.bipush 7, 2) := by decide +kernel
theorem dL_refuses_400 : decode cL_refuses 400 = .ok (.iload 5, 2) := by decide +kernel
theorem dL_refuses_402 : decode cL_refuses 402 = .ok (.iconst 0, 1) := by decide +kernel
theorem dL_refuses_403 : decode cL_refuses 403 = .ok (.bipush 9, 2) := by decide +kernel
theorem dL_refuses_405 : decode cL_refuses 405 = .ok (.iconst 0, 1) := by decide +kernel
theorem dL_refuses_406 : decode cL_refuses 406 = .ok (.invokestatic 86, 3) := by decide +kernel
theorem dL_refuses_409 : decode cL_refuses 409 = .ok (.ldc 75, 2) := by decide +kernel
theorem dL_refuses_411 : decode cL_refuses 411 = .ok (.if_icmp .ne 178, 3) := by decide +kernel
theorem dL_refuses_414 : decode cL_refuses 414 = .ok (.aload_n 0, 1) := by decide +kernel
theorem dL_refuses_415 : decode cL_refuses 415 = .ok (.bipush 8, 2) := by decide +kernel
theorem dL_refuses_417 : decode cL_refuses 417 = .ok (.iload 5, 2) := by decide +kernel
theorem dL_refuses_419 : decode cL_refuses 419 = .ok (.iconst 0, 1) := by decide +kernel
theorem dL_refuses_420 : decode cL_refuses 420 = .ok (.iconst (-1), 1) := by decide +kernel
theorem dL_refuses_421 : decode cL_refuses 421 = .ok (.iconst 0, 1) := by decide +kernel
theorem dL_refuses_422 : decode cL_refuses 422 = .ok (.invokestatic 86, 3) := by decide +kernel
theorem dL_refuses_425 : decode cL_refuses 425 = .ok (.ldc 75, 2) := by decide +kernel
theorem dL_refuses_427 : decode cL_refuses 427 = .ok (.if_icmp .ne 162, 3) := by decide +kernel
theorem dL_refuses_430 : decode cL_refuses 430 = .ok (.aload_n 0, 1) := by decide +kernel
theorem dL_refuses_431 : decode cL_refuses 431 = .ok (.bipush 9, 2) := by decide +kernel
theorem dL_refuses_433 : decode cL_refuses 433 = .ok (.iload 5, 2) := by decide +kernel
theorem dL_refuses_435 : decode cL_refuses 435 = .ok (.iconst (-1), 1) := by decide +kernel
theorem dL_refuses_436 : decode cL_refuses 436 = .ok (.iconst 0, 1) := by decide +kernel
theorem dL_refuses_437 : decode cL_refuses 437 = .ok (.iconst 0, 1) := by decide +kernel
theorem dL_refuses_438 : decode cL_refuses 438 = .ok (.invokestatic 86, 3) := by decide +kernel
theorem dL_refuses_441 : decode cL_refuses 441 = .ok (.ldc 75, 2) := by decide +kernel
theorem dL_refuses_443 : decode cL_refuses 443 = .ok (.if_icmp .ne 146, 3) := by decide +kernel
theorem dL_refuses_446 : decode cL_refuses 446 = .ok (.aload_n 0, 1) := by decide +kernel
theorem dL_refuses_447 : decode cL_refuses 447 = .ok (.bipush 9, 2) := by decide +kernel
theorem dL_refuses_449 : decode cL_refuses 449 = .ok (.iconst 0, 1) := by decide +kernel
theorem dL_refuses_450 : decode cL_refuses 450 = .ok (.iload 6, 2) := by decide +kernel
theorem dL_refuses_452 : decode cL_refuses 452 = .ok (.iconst 0, 1) := by decide +kernel
theorem dL_refuses_453 : decode cL_refuses 453 = .ok (.iconst 0, 1) := by decide +kernel
theorem dL_refuses_454 : decode cL_refuses 454 = .ok (.invokestatic 86, 3) := by decide +kernel
theorem dL_refuses_457 : decode cL_refuses 457 = .ok (.ldc 78, 2) := by decide +kernel
theorem dL_refuses_459 : decode cL_refuses 459 = .ok (.if_icmp .ne 130, 3) := by decide +kernel
theorem dL_refuses_462 : decode cL_refuses 462 = .ok (.aload_n 0, 1) := by decide +kernel
theorem dL_refuses_463 : decode cL_refuses 463 = .ok (.bipush 10, 2) := by decide +kernel
theorem dL_refuses_465 : decode cL_refuses 465 = .ok (.iload 5, 2) := by decide +kernel
theorem dL_refuses_467 : decode cL_refuses 467 = .ok (.iconst (-1), 1) := by decide +kernel
theorem dL_refuses_468 : decode cL_refuses 468 = .ok (.iconst 0, 1) := by decide +kernel
theorem dL_refuses_469 : decode cL_refuses 469 = .ok (.iconst 0, 1) := by decide +kernel
theorem dL_refuses_470 : decode cL_refuses 470 = .ok (.invokestatic 86, 3) := by decide +kernel
theorem dL_refuses_473 : decode cL_refuses 473 = .ok (.ldc 75, 2) := by decide +kernel
theorem dL_refuses_475 : decode cL_refuses 475 = .ok (.if_icmp .ne 114, 3) := by decide +kernel
theorem dL_refuses_478 : decode cL_refuses 478 = .ok (.aload_n 0, 1) := by decide +kernel
theorem dL_refuses_479 : decode cL_refuses 479 = .ok (.bipush 10, 2) := by decide +kernel
theorem dL_refuses_481 : decode cL_refuses 481 = .ok (.iconst 0, 1) := by decide +kernel
theorem dL_refuses_482 : decode cL_refuses 482 = .ok (.iload 6, 2) := by decide +kernel
theorem dL_refuses_484 : decode cL_refuses 484 = .ok (.iconst 0, 1) := by decide +kernel
theorem dL_refuses_485 : decode cL_refuses 485 = .ok (.iconst 0, 1) := by decide +kernel
theorem dL_refuses_486 : decode cL_refuses 486 = .ok (.invokestatic 86, 3) := by decide +kernel
theorem dL_refuses_489 : decode cL_refuses 489 = .ok (.ldc 78, 2) := by decide +kernel
theorem dL_refuses_491 : decode cL_refuses 491 = .ok (.if_icmp .ne 98, 3) := by decide +kernel
theorem dL_refuses_494 : decode cL_refuses 494 = .ok (.aload_n 0, 1) := by decide +kernel
theorem dL_refuses_495 : decode cL_refuses 495 = .ok (.bipush 11, 2) := by decide +kernel
theorem dL_refuses_497 : decode cL_refuses 497 = .ok (.iload 5, 2) := by decide +kernel
theorem dL_refuses_499 : decode cL_refuses 499 = .ok (.bipush 99, 2) := by decide +kernel
theorem dL_refuses_501 : decode cL_refuses 501 = .ok (.iconst 0, 1) := by decide +kernel
theorem dL_refuses_502 : decode cL_refuses 502 = .ok (.iconst 0, 1) := by decide +kernel
theorem dL_refuses_503 : decode cL_refuses 503 = .ok (.invokestatic 86, 3) := by decide +kernel
theorem dL_refuses_506 : decode cL_refuses 506 = .ok (.ldc 75, 2) := by decide +kernel
theorem dL_refuses_508 : decode cL_refuses 508 = .ok (.if_icmp .ne 81, 3) := by decide +kernel
theorem dL_refuses_511 : decode cL_refuses 511 = .ok (.aload_n 0, 1) := by decide +kernel
theorem dL_refuses_512 : decode cL_refuses 512 = .ok (.bipush 11, 2) := by decide +kernel
theorem dL_refuses_514 : decode cL_refuses 514 = .ok (.iconst 0, 1) := by decide +kernel
theorem dL_refuses_515 : decode cL_refuses 515 = .ok (.iload_n 3, 1) := by decide +kernel
theorem dL_refuses_516 : decode cL_refuses 516 = .ok (.iconst 1, 1) := by decide +kernel
theorem dL_refuses_517 : decode cL_refuses 517 = .ok (.if_icmp .ne 8, 3) := by decide +kernel
theorem dL_refuses_520 : decode cL_refuses 520 = .ok (.bipush 7, 2) := by decide +kernel
theorem dL_refuses_522 : decode cL_refuses 522 = .ok (.goto 5, 3) := by decide +kernel
theorem dL_refuses_525 : decode cL_refuses 525 = .ok (.iload 4, 2) := by decide +kernel
theorem dL_refuses_527 : decode cL_refuses 527 = .ok (.iconst 0, 1) := by decide +kernel
theorem dL_refuses_528 : decode cL_refuses 528 = .ok (.iconst 0, 1) := by decide +kernel
theorem dL_refuses_529 : decode cL_refuses 529 = .ok (.invokestatic 86, 3) := by decide +kernel
theorem dL_refuses_532 : decode cL_refuses 532 = .ok (.ldc 78, 2) := by decide +kernel
theorem dL_refuses_534 : decode cL_refuses 534 = .ok (.if_icmp .ne 55, 3) := by decide +kernel
theorem dL_refuses_537 : decode cL_refuses 537 = .ok (.aload_n 0, 1) := by decide +kernel
theorem dL_refuses_538 : decode cL_refuses 538 = .ok (.bipush 12, 2) := by decide +kernel
theorem dL_refuses_540 : decode cL_refuses 540 = .ok (.iload 5, 2) := by decide +kernel
theorem dL_refuses_542 : decode cL_refuses 542 = .ok (.iconst 0, 1) := by decide +kernel
theorem dL_refuses_543 : decode cL_refuses 543 = .ok (.iconst 0, 1) := by decide +kernel
theorem dL_refuses_544 : decode cL_refuses 544 = .ok (.iconst 0, 1) := by decide +kernel
theorem dL_refuses_545 : decode cL_refuses 545 = .ok (.invokestatic 86, 3) := by decide +kernel
theorem dL_refuses_548 : decode cL_refuses 548 = .ok (.ldc 75, 2) := by decide +kernel
theorem dL_refuses_550 : decode cL_refuses 550 = .ok (.if_icmp .ne 39, 3) := by decide +kernel
theorem dL_refuses_553 : decode cL_refuses 553 = .ok (.aload_n 0, 1) := by decide +kernel
theorem dL_refuses_554 : decode cL_refuses 554 = .ok (.bipush 13, 2) := by decide +kernel
theorem dL_refuses_556 : decode cL_refuses 556 = .ok (.iload 5, 2) := by decide +kernel
theorem dL_refuses_558 : decode cL_refuses 558 = .ok (.iconst 0, 1) := by decide +kernel
theorem dL_refuses_559 : decode cL_refuses 559 = .ok (.iconst 0, 1) := by decide +kernel
theorem dL_refuses_560 : decode cL_refuses 560 = .ok (.iconst 0, 1) := by decide +kernel
theorem dL_refuses_561 : decode cL_refuses 561 = .ok (.invokestatic 86, 3) := by decide +kernel
theorem dL_refuses_564 : decode cL_refuses 564 = .ok (.ldc 75, 2) := by decide +kernel
theorem dL_refuses_566 : decode cL_refuses 566 = .ok (.if_icmp .ne 23, 3) := by decide +kernel
theorem dL_refuses_569 : decode cL_refuses 569 = .ok (.aload_n 0, 1) := by decide +kernel
theorem dL_refuses_570 : decode cL_refuses 570 = .ok (.bipush 13, 2) := by decide +kernel
theorem dL_refuses_572 : decode cL_refuses 572 = .ok (.iconst 0, 1) := by decide +kernel
theorem dL_refuses_573 : decode cL_refuses 573 = .ok (.iload 7, 2) := by decide +kernel
theorem dL_refuses_575 : decode cL_refuses 575 = .ok (.iconst 0, 1) := by decide +kernel
theorem dL_refuses_576 : decode cL_refuses 576 = .ok (.iconst 0, 1) := by decide +kernel
theorem dL_refuses_577 : decode cL_refuses 577 = .ok (.invokestatic 86, 3) := by decide +kernel
theorem dL_refuses_580 : decode cL_refuses 580 = .ok (.ldc 75, 2) := by decide +kernel
theorem dL_refuses_582 : decode cL_refuses 582 = .ok (.if_icmp .ne 7, 3) := by decide +kernel
theorem dL_refuses_585 : decode cL_refuses 585 = .ok (.iconst 1, 1) := by decide +kernel
theorem dL_refuses_586 : decode cL_refuses 586 = .ok (.goto 4, 3) := by decide +kernel
theorem dL_refuses_589 : decode cL_refuses 589 = .ok (.iconst 0, 1) := by decide +kernel
theorem dL_refuses_590 : decode cL_refuses 590 = .ok (.istore 8, 2) := by decide +kernel
theorem dL_refuses_592 : decode cL_refuses 592 = .ok (.bipush 14, 2) := by decide +kernel
theorem dL_refuses_594 : decode cL_refuses 594 = .ok (.istore 9, 2) := by decide +kernel
theorem dL_refuses_596 : decode cL_refuses 596 = .ok (.iload 9, 2) := by decide +kernel
theorem dL_refuses_598 : decode cL_refuses 598 = .ok (.bipush 16, 2) := by decide +kernel
theorem dL_refuses_600 : decode cL_refuses 600 = .ok (.if_icmp .ge 94, 3) := by decide +kernel
theorem dL_refuses_603 : decode cL_refuses 603 = .ok (.iload 8, 2) := by decide +kernel
theorem dL_refuses_605 : decode cL_refuses 605 = .ok (.ifCond .eq 89, 3) := by decide +kernel
theorem dL_refuses_608 : decode cL_refuses 608 = .ok (.aload_n 0, 1) := by decide +kernel
theorem dL_refuses_609 : decode cL_refuses 609 = .ok (.iload 9, 2) := by decide +kernel
theorem dL_refuses_611 : decode cL_refuses 611 = .ok (.iload 5, 2) := by decide +kernel
theorem dL_refuses_613 : decode cL_refuses 613 = .ok (.iconst (-1), 1) := by decide +kernel
theorem dL_refuses_614 : decode cL_refuses 614 = .ok (.iconst 0, 1) := by decide +kernel
theorem dL_refuses_615 : decode cL_refuses 615 = .ok (.iconst 0, 1) := by decide +kernel
theorem dL_refuses_616 : decode cL_refuses 616 = .ok (.invokestatic 86, 3) := by decide +kernel
theorem dL_refuses_619 : decode cL_refuses 619 = .ok (.ldc 75, 2) := by decide +kernel
theorem dL_refuses_621 : decode cL_refuses 621 = .ok (.if_icmp .ne 64, 3) := by decide +kernel
theorem dL_refuses_624 : decode cL_refuses 624 = .ok (.aload_n 0, 1) := by decide +kernel
theorem dL_refuses_625 : decode cL_refuses 625 = .ok (.iload 9, 2) := by decide +kernel
theorem dL_refuses_627 : decode cL_refuses 627 = .ok (.iconst 0, 1) := by decide +kernel
theorem dL_refuses_628 : decode cL_refuses 628 = .ok (.iload 6, 2) := by decide +kernel
theorem dL_refuses_630 : decode cL_refuses 630 = .ok (.iconst 0, 1) := by decide +kernel
theorem dL_refuses_631 : decode cL_refuses 631 = .ok (.iconst 0, 1) := by decide +kernel
theorem dL_refuses_632 : decode cL_refuses 632 = .ok (.invokestatic 86, 3) := by decide +kernel
theorem dL_refuses_635 : decode cL_refuses 635 = .ok (.ldc 78, 2) := by decide +kernel
theorem dL_refuses_637 : decode cL_refuses 637 = .ok (.if_icmp .ne 48, 3) := by decide +kernel
theorem dL_refuses_640 : decode cL_refuses 640 = .ok (.aload_n 0, 1) := by decide +kernel
theorem dL_refuses_641 : decode cL_refuses 641 = .ok (.iload 9, 2) := by decide +kernel
theorem dL_refuses_643 : decode cL_refuses 643 = .ok (.iconst 0, 1) := by decide +kernel
theorem dL_refuses_644 : decode cL_refuses 644 = .ok (.iconst 0, 1) := by decide +kernel
theorem dL_refuses_645 : decode cL_refuses 645 = .ok (.iload 6, 2) := by decide +kernel
theorem dL_refuses_647 : decode cL_refuses 647 = .ok (.iconst 0, 1) := by decide +kernel
theorem dL_refuses_648 : decode cL_refuses 648 = .ok (.invokestatic 86, 3) := by decide +kernel
theorem dL_refuses_651 : decode cL_refuses 651 = .ok (.ldc 78, 2) := by decide +kernel
theorem dL_refuses_653 : decode cL_refuses 653 = .ok (.if_icmp .ne 32, 3) := by decide +kernel
theorem dL_refuses_656 : decode cL_refuses 656 = .ok (.aload_n 0, 1) := by decide +kernel
theorem dL_refuses_657 : decode cL_refuses 657 = .ok (.iload 9, 2) := by decide +kernel
theorem dL_refuses_659 : decode cL_refuses 659 = .ok (.iconst 0, 1) := by decide +kernel
theorem dL_refuses_660 : decode cL_refuses 660 = .ok (.iconst 0, 1) := by decide +kernel
theorem dL_refuses_661 : decode cL_refuses 661 = .ok (.iconst 0, 1) := by decide +kernel
theorem dL_refuses_662 : decode cL_refuses 662 = .ok (.iload_n 3, 1) := by decide +kernel
theorem dL_refuses_663 : decode cL_refuses 663 = .ok (.iconst 1, 1) := by decide +kernel
theorem dL_refuses_664 : decode cL_refuses 664 = .ok (.if_icmp .ne 7, 3) := by decide +kernel
theorem dL_refuses_667 : decode cL_refuses 667 = .ok (.iconst 3, 1) := by decide +kernel
theorem dL_refuses_668 : decode cL_refuses 668 = .ok (.goto 5, 3) := by decide +kernel
theorem dL_refuses_671 : decode cL_refuses 671 = .ok (.iload 4, 2) := by decide +kernel
theorem dL_refuses_673 : decode cL_refuses 673 = .ok (.invokestatic 86, 3) := by decide +kernel
theorem dL_refuses_676 : decode cL_refuses 676 = .ok (.ldc 78, 2) := by decide +kernel
theorem dL_refuses_678 : decode cL_refuses 678 = .ok (.if_icmp .ne 7, 3) := by decide +kernel
theorem dL_refuses_681 : decode cL_refuses 681 = .ok (.iconst 1, 1) := by decide +kernel
theorem dL_refuses_682 : decode cL_refuses 682 = .ok (.goto 4, 3) := by decide +kernel
theorem dL_refuses_685 : decode cL_refuses 685 = .ok (.iconst 0, 1) := by decide +kernel
theorem dL_refuses_686 : decode cL_refuses 686 = .ok (.istore 8, 2) := by decide +kernel
theorem dL_refuses_688 : decode cL_refuses 688 = .ok (.iinc 9 1, 3) := by decide +kernel
theorem dL_refuses_691 : decode cL_refuses 691 = .ok (.goto (-95), 3) := by decide +kernel
theorem dL_refuses_694 : decode cL_refuses 694 = .ok (.iload 8, 2) := by decide +kernel
theorem dL_refuses_696 : decode cL_refuses 696 = .ok (.ifCond .eq 239, 3) := by decide +kernel
theorem dL_refuses_699 : decode cL_refuses 699 = .ok (.aload_n 0, 1) := by decide +kernel
theorem dL_refuses_700 : decode cL_refuses 700 = .ok (.bipush 16, 2) := by decide +kernel
theorem dL_refuses_702 : decode cL_refuses 702 = .ok (.iload 5, 2) := by decide +kernel
theorem dL_refuses_704 : decode cL_refuses 704 = .ok (.bipush 9, 2) := by decide +kernel
theorem dL_refuses_706 : decode cL_refuses 706 = .ok (.bipush 9, 2) := by decide +kernel
theorem dL_refuses_708 : decode cL_refuses 708 = .ok (.iconst 0, 1) := by decide +kernel
theorem dL_refuses_709 : decode cL_refuses 709 = .ok (.invokestatic 86, 3) := by decide +kernel
theorem dL_refuses_712 : decode cL_refuses 712 = .ok (.ldc 75, 2) := by decide +kernel
theorem dL_refuses_714 : decode cL_refuses 714 = .ok (.if_icmp .ne 221, 3) := by decide +kernel
theorem dL_refuses_717 : decode cL_refuses 717 = .ok (.aload_n 0, 1) := by decide +kernel
theorem dL_refuses_718 : decode cL_refuses 718 = .ok (.bipush 16, 2) := by decide +kernel
theorem dL_refuses_720 : decode cL_refuses 720 = .ok (.iconst 0, 1) := by decide +kernel
theorem dL_refuses_721 : decode cL_refuses 721 = .ok (.iload_n 3, 1) := by decide +kernel
theorem dL_refuses_722 : decode cL_refuses 722 = .ok (.iconst 1, 1) := by decide +kernel
theorem dL_refuses_723 : decode cL_refuses 723 = .ok (.if_icmp .ne 7, 3) := by decide +kernel
theorem dL_refuses_726 : decode cL_refuses 726 = .ok (.iconst 2, 1) := by decide +kernel
theorem dL_refuses_727 : decode cL_refuses 727 = .ok (.goto 5, 3) := by decide +kernel
theorem dL_refuses_730 : decode cL_refuses 730 = .ok (.iload 4, 2) := by decide +kernel
theorem dL_refuses_732 : decode cL_refuses 732 = .ok (.iconst 0, 1) := by decide +kernel
theorem dL_refuses_733 : decode cL_refuses 733 = .ok (.iconst 0, 1) := by decide +kernel
theorem dL_refuses_734 : decode cL_refuses 734 = .ok (.invokestatic 86, 3) := by decide +kernel
theorem dL_refuses_737 : decode cL_refuses 737 = .ok (.ldc 78, 2) := by decide +kernel
theorem dL_refuses_739 : decode cL_refuses 739 = .ok (.if_icmp .ne 196, 3) := by decide +kernel
theorem dL_refuses_742 : decode cL_refuses 742 = .ok (.aload_n 0, 1) := by decide +kernel
theorem dL_refuses_743 : decode cL_refuses 743 = .ok (.bipush 16, 2) := by decide +kernel
theorem dL_refuses_745 : decode cL_refuses 745 = .ok (.iconst 0, 1) := by decide +kernel
theorem dL_refuses_746 : decode cL_refuses 746 = .ok (.iconst 0, 1) := by decide +kernel
theorem dL_refuses_747 : decode cL_refuses 747 = .ok (.iload_n 3, 1) := by decide +kernel
theorem dL_refuses_748 : decode cL_refuses 748 = .ok (.iconst 1, 1) := by decide +kernel
theorem dL_refuses_749 : decode cL_refuses 749 = .ok (.if_icmp .ne 7, 3) := by decide +kernel
theorem dL_refuses_752 : decode cL_refuses 752 = .ok (.iconst 4, 1) := by decide +kernel
theorem dL_refuses_753 : decode cL_refuses 753 = .ok (.goto 5, 3) := by decide +kernel
theorem dL_refuses_756 : decode cL_refuses 756 = .ok (.iload 4, 2) := by decide +kernel
theorem dL_refuses_758 : decode cL_refuses 758 = .ok (.iconst 0, 1) := by decide +kernel
theorem dL_refuses_759 : decode cL_refuses 759 = .ok (.invokestatic 86, 3) := by decide +kernel
theorem dL_refuses_762 : decode cL_refuses 762 = .ok (.ldc 78, 2) := by decide +kernel
theorem dL_refuses_764 : decode cL_refuses 764 = .ok (.if_icmp .ne 171, 3) := by decide +kernel
theorem dL_refuses_767 : decode cL_refuses 767 = .ok (.aload_n 0, 1) := by decide +kernel
theorem dL_refuses_768 : decode cL_refuses 768 = .ok (.bipush 17, 2) := by decide +kernel
theorem dL_refuses_770 : decode cL_refuses 770 = .ok (.iload 5, 2) := by decide +kernel

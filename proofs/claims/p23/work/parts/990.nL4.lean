theorem dL_multipliers_199 : decode cL_multipliers 199 = .ok (.iconst 3, 1) := by decide +kernel
theorem dL_multipliers_200 : decode cL_multipliers 200 = .ok (.invokevirtual 25, 3) := by decide +kernel
theorem dL_multipliers_203 : decode cL_multipliers 203 = .ok (.bipush 36, 2) := by decide +kernel
theorem dL_multipliers_205 : decode cL_multipliers 205 = .ok (.if_icmp .ne 120, 3) := by decide +kernel
theorem dL_multipliers_208 : decode cL_multipliers 208 = .ok (.aload_n 0, 1) := by decide +kernel
theorem dL_multipliers_209 : decode cL_multipliers 209 = .ok (.iconst 3, 1) := by decide +kernel
theorem dL_multipliers_210 : decode cL_multipliers 210 = .ok (.bipush 36, 2) := by decide +kernel
theorem dL_multipliers_212 : decode cL_multipliers 212 = .ok (.bipush 6, 2) := by decide +kernel
theorem dL_multipliers_214 : decode cL_multipliers 214 = .ok (.bipush 6, 2) := by decide +kernel
theorem dL_multipliers_216 : decode cL_multipliers 216 = .ok (.bipush 30, 2) := by decide +kernel
theorem dL_multipliers_218 : decode cL_multipliers 218 = .ok (.bipush 10, 2) := by decide +kernel
theorem dL_multipliers_220 : decode cL_multipliers 220 = .ok (.iconst 0, 1) := by decide +kernel
theorem dL_multipliers_221 : decode cL_multipliers 221 = .ok (.invokestatic 97, 3) := by decide +kernel
theorem dL_multipliers_224 : decode cL_multipliers 224 = .ok (.ifCond .eq 101, 3) := by decide +kernel
theorem dL_multipliers_227 : decode cL_multipliers 227 = .ok (.aload_n 0, 1) := by decide +kernel
theorem dL_multipliers_228 : decode cL_multipliers 228 = .ok (.iconst 3, 1) := by decide +kernel
theorem dL_multipliers_229 : decode cL_multipliers 229 = .ok (.iconst 1, 1) := by decide +kernel
theorem dL_multipliers_230 : decode cL_multipliers 230 = .ok (.iconst 0, 1) := by decide +kernel
theorem dL_multipliers_231 : decode cL_multipliers 231 = .ok (.iconst 0, 1) := by decide +kernel
theorem dL_multipliers_232 : decode cL_multipliers 232 = .ok (.iconst 0, 1) := by decide +kernel
theorem dL_multipliers_233 : decode cL_multipliers 233 = .ok (.iconst (-1), 1) := by decide +kernel
theorem dL_multipliers_234 : decode cL_multipliers 234 = .ok (.invokestatic 111, 3) := by decide +kernel
theorem dL_multipliers_237 : decode cL_multipliers 237 = .ok (.ifCond .eq 88, 3) := by decide +kernel
theorem dL_multipliers_240 : decode cL_multipliers 240 = .ok (.aload_n 0, 1) := by decide +kernel
theorem dL_multipliers_241 : decode cL_multipliers 241 = .ok (.iconst 3, 1) := by decide +kernel
theorem dL_multipliers_242 : decode cL_multipliers 242 = .ok (.invokevirtual 28, 3) := by decide +kernel
theorem dL_multipliers_245 : decode cL_multipliers 245 = .ok (.bipush 36, 2) := by decide +kernel
theorem dL_multipliers_247 : decode cL_multipliers 247 = .ok (.if_icmp .ne 78, 3) := by decide +kernel
theorem dL_multipliers_250 : decode cL_multipliers 250 = .ok (.aload_n 0, 1) := by decide +kernel
theorem dL_multipliers_251 : decode cL_multipliers 251 = .ok (.iconst 3, 1) := by decide +kernel
theorem dL_multipliers_252 : decode cL_multipliers 252 = .ok (.iconst 4, 1) := by decide +kernel
theorem dL_multipliers_253 : decode cL_multipliers 253 = .ok (.invokevirtual 25, 3) := by decide +kernel
theorem dL_multipliers_256 : decode cL_multipliers 256 = .ok (.bipush 72, 2) := by decide +kernel
theorem dL_multipliers_258 : decode cL_multipliers 258 = .ok (.if_icmp .ne 67, 3) := by decide +kernel
theorem dL_multipliers_261 : decode cL_multipliers 261 = .ok (.aload_n 0, 1) := by decide +kernel
theorem dL_multipliers_262 : decode cL_multipliers 262 = .ok (.iconst 3, 1) := by decide +kernel
theorem dL_multipliers_263 : decode cL_multipliers 263 = .ok (.iconst 1, 1) := by decide +kernel
theorem dL_multipliers_264 : decode cL_multipliers 264 = .ok (.iconst 0, 1) := by decide +kernel
theorem dL_multipliers_265 : decode cL_multipliers 265 = .ok (.iconst 0, 1) := by decide +kernel
theorem dL_multipliers_266 : decode cL_multipliers 266 = .ok (.iconst 0, 1) := by decide +kernel
theorem dL_multipliers_267 : decode cL_multipliers 267 = .ok (.iconst (-1), 1) := by decide +kernel
theorem dL_multipliers_268 : decode cL_multipliers 268 = .ok (.invokestatic 111, 3) := by decide +kernel
theorem dL_multipliers_271 : decode cL_multipliers 271 = .ok (.ifCond .eq 54, 3) := by decide +kernel
theorem dL_multipliers_274 : decode cL_multipliers 274 = .ok (.aload_n 0, 1) := by decide +kernel
theorem dL_multipliers_275 : decode cL_multipliers 275 = .ok (.iconst 3, 1) := by decide +kernel
theorem dL_multipliers_276 : decode cL_multipliers 276 = .ok (.sipush 255, 3) := by decide +kernel
theorem dL_multipliers_279 : decode cL_multipliers 279 = .ok (.sipush 225, 3) := by decide +kernel
theorem dL_multipliers_282 : decode cL_multipliers 282 = .ok (.invokestatic 102, 3) := by decide +kernel
theorem dL_multipliers_285 : decode cL_multipliers 285 = .ok (.ifCond .eq 40, 3) := by decide +kernel
theorem dL_multipliers_288 : decode cL_multipliers 288 = .ok (.aload_n 0, 1) := by decide +kernel
theorem dL_multipliers_289 : decode cL_multipliers 289 = .ok (.iconst 3, 1) := by decide +kernel
theorem dL_multipliers_290 : decode cL_multipliers 290 = .ok (.iconst 2, 1) := by decide +kernel
theorem dL_multipliers_291 : decode cL_multipliers 291 = .ok (.invokevirtual 46, 3) := by decide +kernel
theorem dL_multipliers_294 : decode cL_multipliers 294 = .ok (.bipush 8, 2) := by decide +kernel
theorem dL_multipliers_296 : decode cL_multipliers 296 = .ok (.if_icmp .ne 29, 3) := by decide +kernel
theorem dL_multipliers_299 : decode cL_multipliers 299 = .ok (.aload_n 0, 1) := by decide +kernel
theorem dL_multipliers_300 : decode cL_multipliers 300 = .ok (.iconst 3, 1) := by decide +kernel
theorem dL_multipliers_301 : decode cL_multipliers 301 = .ok (.iconst 0, 1) := by decide +kernel
theorem dL_multipliers_302 : decode cL_multipliers 302 = .ok (.bipush 99, 2) := by decide +kernel
theorem dL_multipliers_304 : decode cL_multipliers 304 = .ok (.invokevirtual 64, 3) := by decide +kernel
theorem dL_multipliers_307 : decode cL_multipliers 307 = .ok (.iconst 1, 1) := by decide +kernel
theorem dL_multipliers_308 : decode cL_multipliers 308 = .ok (.if_icmp .ne 17, 3) := by decide +kernel
theorem dL_multipliers_311 : decode cL_multipliers 311 = .ok (.aload_n 0, 1) := by decide +kernel
theorem dL_multipliers_312 : decode cL_multipliers 312 = .ok (.iconst 3, 1) := by decide +kernel
theorem dL_multipliers_313 : decode cL_multipliers 313 = .ok (.invokevirtual 28, 3) := by decide +kernel
theorem dL_multipliers_316 : decode cL_multipliers 316 = .ok (.bipush 72, 2) := by decide +kernel
theorem dL_multipliers_318 : decode cL_multipliers 318 = .ok (.if_icmp .ne 7, 3) := by decide +kernel
theorem dL_multipliers_321 : decode cL_multipliers 321 = .ok (.iconst 1, 1) := by decide +kernel
theorem dL_multipliers_322 : decode cL_multipliers 322 = .ok (.goto 4, 3) := by decide +kernel
theorem dL_multipliers_325 : decode cL_multipliers 325 = .ok (.iconst 0, 1) := by decide +kernel
theorem dL_multipliers_326 : decode cL_multipliers 326 = .ok (.ireturn, 1) := by decide +kernel
set_option maxRecDepth 20000 in
theorem ggL_glitch_X11_input : GoodIn wsL_glitch wsX11_input := goodIn_ca (goodIn_ca (goodIn_r _ [6, 7, 8, 9, 10, 11, 5, 12, 13, 14, 15, 16, 17, 18, 19, 20, 21, 22, 23, 24, 25, 26, 27, 28, 29, 30, 31, 32, 33, 34, 35, 36, 37, 38, 39, 40, 41, 42, 43, 44, 583, 584, 585, 586, 587, 588, 589, 590, 591, 592, 593, 594, 595, 596, 597, 598, 599, 600, 601, 602, 603] (by decide +kernel) (by decide +kernel)) (goodIn_sub (fun _ h => List.mem_cons_of_mem _ (List.mem_append_left _ (List.mem_append_left _ (List.mem_append_right _ h)))) (by decide +kernel))) (goodIn_sub (fun _ h => List.mem_cons_of_mem _ (List.mem_append_left _ (List.mem_append_right _ h))) (by decide +kernel))
set_option maxRecDepth 20000 in
theorem gL_glitch_X11_input : GoodIn wsL_glitch (wsV RL 7 RX11 yX11_input wsX11_input) := goodIn_app (goodIn_of _ (by decide +kernel)) ggL_glitch_X11_input
set_option maxRecDepth 20000 in
theorem ggL_glitch_X11_gate : GoodIn wsL_glitch wsX11_gate := goodIn_ca (goodIn_ca (goodIn_r _ [48, 7, 8, 9, 10, 11, 5, 12, 13, 14, 15, 49, 50, 51, 52, 53, 54, 55, 56, 57, 19, 58, 21, 16, 17, 18, 20, 59, 60, 61, 62, 31, 32, 33, 34, 35, 36, 37, 38, 39, 40, 41, 42, 43, 44, 583, 584, 585, 586, 587, 588, 589, 590, 591, 592, 593, 594, 595, 596, 597, 598, 599, 600, 601, 602, 603] (by decide +kernel) (by decide +kernel)) (goodIn_sub (fun _ h => List.mem_cons_of_mem _ (List.mem_append_left _ (List.mem_append_left _ (List.mem_append_right _ h)))) (by decide +kernel))) (goodIn_sub (fun _ h => List.mem_cons_of_mem _ (List.mem_append_left _ (List.mem_append_right _ h))) (by decide +kernel))
set_option maxRecDepth 20000 in
theorem gL_glitch_X11_gate : GoodIn wsL_glitch (wsV RL 13 RX11 yX11_gate wsX11_gate) := goodIn_app (goodIn_of _ (by decide +kernel)) ggL_glitch_X11_gate
set_option maxRecDepth 20000 in
theorem ggL_glitch_X11_out : GoodIn wsL_glitch wsX11_out := goodIn_ca (goodIn_ca (goodIn_r _ [66, 7, 8, 9, 10, 11, 5, 12, 13, 14, 15, 52, 53, 54, 55, 56, 57, 19, 58, 21, 67, 68, 69, 70, 71, 72, 73, 74, 75, 76, 39, 40, 41, 42, 43, 44, 583, 584, 585, 586, 587, 588, 589, 590, 591, 592, 593, 594, 595, 596, 597, 598, 599, 600, 601, 602, 603] (by decide +kernel) (by decide +kernel)) (goodIn_sub (fun _ h => List.mem_cons_of_mem _ (List.mem_append_left _ (List.mem_append_left _ (List.mem_append_right _ h)))) (by decide +kernel))) (goodIn_sub (fun _ h => List.mem_cons_of_mem _ (List.mem_append_left _ (List.mem_append_right _ h))) (by decide +kernel))
set_option maxRecDepth 20000 in
theorem gL_glitch_X11_out : GoodIn wsL_glitch (wsV RL 17 RX11 yX11_out wsX11_out) := goodIn_app (goodIn_of _ (by decide +kernel)) ggL_glitch_X11_out
set_option maxRecDepth 20000 in
theorem ggL_glitch_X11_ofNet : GoodIn wsL_glitch wsX11_ofNet := goodIn_ca (goodIn_ca (goodIn_r _ [80, 81, 82, 83, 9, 10, 11, 5, 12, 13, 14, 15, 84, 85, 86, 87, 88, 89, 90, 91, 19, 92, 21, 22, 23, 24, 25, 26, 67, 68, 69, 70, 71, 93, 94, 95, 96, 97, 98, 99, 100, 101, 35, 102, 103, 104, 42, 105, 44, 106, 107, 108, 109, 110, 111, 112, 113, 114, 115, 116, 117, 118, 119, 120, 121, 122, 123, 124, 125, 126, 127, 36, 128, 129, 130, 131, 132, 37, 133, 134, 40, 41, 43, 135, 136, 137, 138, 139, 140, 141, 142, 143, 144, 145, 146, 147, 76, 148, 149, 150, 151, 152, 153, 154, 155, 156, 157, 158, 159, 160, 161, 162, 163, 164, 165, 166, 167, 168, 169, 170, 171, 172, 173, 174, 175, 176, 177, 178, 179, 180, 181, 182, 583, 584, 585, 586, 587, 588, 589, 590, 591, 592, 593, 594, 595, 596, 597, 598, 599, 600, 601, 602, 603, 604, 605, 606, 607, 608] (by decide +kernel) (by decide +kernel)) (goodIn_sub (fun _ h => List.mem_cons_of_mem _ (List.mem_append_left _ (List.mem_append_right _ h))) (by decide +kernel))) (goodIn_sub (fun _ h => List.mem_cons_of_mem _ (List.mem_append_right _ h)) (by decide +kernel))
set_option maxRecDepth 20000 in
theorem gL_glitch_X11_ofNet : GoodIn wsL_glitch (wsV RL 46 RX11 yX11_ofNet wsX11_ofNet) := goodIn_app (goodIn_of _ (by decide +kernel)) ggL_glitch_X11_ofNet
set_option maxRecDepth 20000 in
theorem ggL_glitch_L_value : GoodIn wsL_glitch wsL_value := goodIn_ca (goodIn_ca (goodIn_r _ [186, 187, 188, 189, 5, 190, 191, 192, 9, 10, 11, 12, 13, 14, 15, 84, 85, 86, 87, 88, 193, 194, 195, 196, 197, 198, 199, 200, 201, 202, 203, 204, 90, 91, 19, 92, 21, 205, 99, 100, 101, 35, 102, 103, 104, 42, 105, 44, 206, 207, 208, 209, 210, 211, 212, 213, 214, 107, 108, 109, 215, 125, 126, 127, 36, 216, 217, 218, 219, 220, 221, 222, 130, 131, 132, 37, 223, 224, 225, 226, 227, 228, 229, 38, 230, 231, 232, 233, 234, 68, 69, 70, 71, 235, 145, 146, 147, 76, 236, 237, 238, 239, 240, 241, 242, 243, 83, 67, 244, 245, 246, 247, 151, 248, 177, 249, 155, 156, 157, 158, 178, 40, 41, 43, 179, 180, 181, 182, 159, 172, 160, 161, 168, 250, 251, 252, 253, 254, 169, 583, 584, 585, 586, 587, 588, 589, 590, 591, 592, 593, 594, 609, 610, 595, 596, 597, 598, 599, 600, 601, 602, 603, 611, 606, 607, 608] (by decide +kernel) (by decide +kernel)) (goodIn_sub (fun _ h => List.mem_cons_of_mem _ (List.mem_append_left _ (List.mem_append_right _ h))) (by decide +kernel))) (goodIn_sub (fun _ h => List.mem_cons_of_mem _ (List.mem_append_right _ h)) (by decide +kernel))
set_option maxRecDepth 20000 in
theorem gL_glitch_L_value : GoodIn wsL_glitch (va_wsS RL 102 yL_value wsL_value) := goodIn_app (goodIn_of _ (by decide +kernel)) ggL_glitch_L_value
set_option maxRecDepth 20000 in
theorem ggL_glitch_L_changes : GoodIn wsL_glitch wsL_changes := goodIn_ca (goodIn_ca (goodIn_r _ [257, 258, 259, 260, 5, 261, 262, 82, 192, 263, 81, 264, 9, 10, 11, 12, 13, 14, 15, 265, 266, 267, 191, 84, 85, 86, 87, 88, 268, 269, 270, 271, 111, 112, 113, 114, 115, 116, 117, 118, 119, 120, 121, 122, 90, 91, 19, 92, 21, 123, 99, 100, 101, 35, 102, 103, 104, 42, 105, 44, 124, 125, 126, 127, 36, 128, 129, 130, 131, 132, 37, 133, 107, 108, 109, 134, 40, 41, 43, 193, 194, 195, 196, 197, 198, 199, 200, 201, 202, 203, 204, 205, 206, 207, 208, 209, 210, 211, 212, 213, 214, 215, 216, 217, 218, 219, 220, 221, 222, 223, 224, 225, 226, 227, 228, 229, 38, 230, 231, 232, 233, 234, 68, 69, 70, 71, 235, 145, 146, 147, 76, 272, 273, 274, 275, 276, 277, 278, 279, 280, 281, 282, 283, 284, 285, 286, 287, 288, 289, 290, 291, 292, 293, 294, 295, 296, 297, 298, 299, 300, 301, 302, 303, 304, 305, 306, 307, 308, 309, 310, 311, 312, 313, 314, 315, 316, 317, 318, 319, 320, 321, 322, 323, 324, 325, 326, 327, 328, 329, 330, 331, 332, 333, 334, 335, 336, 337, 338, 339, 340, 341, 342, 343, 344, 345, 346, 347, 348, 349, 350, 351, 352, 353, 354, 355, 356, 357, 358, 359, 360, 361, 362, 363, 364, 365, 366, 367, 368, 369, 370, 371, 372, 373, 374, 375, 376, 377, 378, 379, 380, 381, 382, 383, 384, 385, 583, 584, 585, 586, 587, 588, 589, 590, 591, 592, 593, 594, 604, 605, 595, 596, 597, 598, 599, 600, 601, 602, 603, 609, 610, 611, 612, 613, 614, 615, 616, 617] (by decide +kernel) (by decide +kernel)) (goodIn_sub (fun _ h => List.mem_cons_of_mem _ (List.mem_append_left _ (List.mem_append_right _ h))) (by decide +kernel))) (goodIn_sub (fun _ h => List.mem_cons_of_mem _ (List.mem_append_right _ h)) (by decide +kernel))
set_option maxRecDepth 20000 in
theorem gL_glitch_L_changes : GoodIn wsL_glitch (va_wsS RL 108 yL_changes wsL_changes) := goodIn_app (goodIn_of _ (by decide +kernel)) ggL_glitch_L_changes
set_option maxRecDepth 20000 in
theorem ggL_glitch_L_path : GoodIn wsL_glitch wsL_path := goodIn_ca (goodIn_r _ [388, 389, 390, 391, 392, 5, 393, 13, 14, 81, 82, 9, 10, 11, 12, 15, 111, 112, 113, 114, 115, 116, 117, 118, 119, 120, 121, 122, 90, 91, 19, 92, 21, 123, 99, 100, 101, 35, 102, 103, 104, 42, 105, 44, 124, 125, 126, 127, 36, 128, 129, 130, 131, 132, 37, 133, 107, 108, 109, 134, 40, 41, 43, 394, 140, 141, 142, 143, 68, 69, 70, 71, 144, 145, 146, 147, 76, 395, 396, 397, 398, 583, 584, 585, 586, 587, 588, 589, 590, 591, 592, 593, 594, 604, 605, 595, 596, 597, 598, 599, 600, 601, 602, 603] (by decide +kernel) (by decide +kernel)) (goodIn_sub (fun _ h => List.mem_cons_of_mem _ (List.mem_append_left _ (List.mem_append_right _ h))) (by decide +kernel))
set_option maxRecDepth 20000 in
theorem gL_glitch_L_path : GoodIn wsL_glitch (va_wsS RL 105 yL_path wsL_path) := goodIn_app (goodIn_of _ (by decide +kernel)) ggL_glitch_L_path
set_option maxRecDepth 20000 in
theorem ggL_glitch_L_act : GoodIn wsL_glitch wsL_act := goodIn_ca (goodIn_ca (goodIn_ca (goodIn_r _ [401, 402, 403, 404, 405, 406, 1, 2, 3, 4, 5, 6, 7, 8, 9, 10, 11, 12, 13, 14, 15, 16, 17, 18, 19, 20, 21, 22, 23, 24, 25, 26, 27, 28, 29, 30, 31, 32, 33, 34, 35, 36, 37, 38, 39, 40, 41, 42, 43, 44, 45, 46, 47, 48, 49, 50, 51, 52, 53, 54, 55, 56, 57, 58, 59, 60, 61, 62, 63, 64, 65, 66, 67, 68, 69, 70, 71, 72, 73, 74, 75, 76, 407, 408, 409, 410, 411, 84, 85, 86, 87, 88, 412, 413, 414, 89, 90, 91, 92, 415, 416, 417, 418, 419, 420, 421, 422, 423, 424, 425, 426, 427, 428, 429, 430, 431, 432, 433, 434, 435, 436, 437, 438, 439, 440, 441, 442, 443, 444, 445, 446, 447, 448, 449, 450, 451, 452, 453, 454, 166, 103, 104, 105, 455, 456, 457, 458, 459, 460, 461, 462, 463, 464, 465, 466, 467, 468, 469, 470, 471, 472, 473, 474, 475, 476, 477, 478, 479, 480, 481, 482, 483, 484, 485, 486, 487, 488, 489, 82, 97, 110, 490, 491, 492, 493, 494, 495, 227, 228, 229, 102, 496, 497, 498, 499, 500, 501, 502, 503, 191, 192, 193, 194, 195, 196, 197, 198, 199, 200, 201, 202, 203, 204, 205, 99, 100, 101, 206, 207, 208, 209, 210, 211, 212, 213, 214, 107, 108, 109, 215, 125, 126, 127, 216, 217, 218, 219, 220, 221, 222, 130, 131, 132, 223, 224, 225, 226, 230, 231, 232, 233, 234, 235, 145, 146, 147, 504, 359, 360, 361, 187, 188, 189, 190, 236, 237, 238, 239, 240, 241, 242, 243, 83, 244, 245, 246, 247, 151, 248, 177, 249, 155, 156, 157, 158, 178, 179, 180, 181, 182, 159, 172, 160, 161, 168, 250, 251, 252, 253, 254, 169, 77, 78, 79, 80, 81, 93, 94, 95, 96, 98, 106, 111, 112, 113, 114, 115, 116, 117, 118, 119, 120, 121, 122, 123, 124, 128, 129, 133, 134, 135, 136, 137, 138, 139, 140, 141, 142, 143, 144, 148, 149, 150, 152, 153, 154, 162, 163, 164, 165, 167, 170, 171, 173, 174, 175, 176, 505, 506, 507, 508, 509, 510, 511, 512, 390, 391, 392, 393, 394, 395, 396, 397, 398, 258, 259, 260, 261, 262, 263, 264, 265, 266, 267, 268, 269, 270, 271, 272, 273, 274, 275, 276, 277, 278, 279, 280, 281, 282, 283, 284, 285, 286, 287, 288, 289, 290, 291, 292, 293, 294, 295, 296, 297, 298, 299, 300, 301, 302, 303, 304, 305, 306, 307, 308, 309, 310, 311, 312, 313, 314, 315, 316, 317, 318, 319, 320, 321, 322, 323, 324, 325, 326, 327, 328, 329, 330, 331, 332, 333, 334, 335, 336, 337, 338, 339, 340, 341, 342, 343, 344, 345, 346, 347, 348, 349, 350, 351, 352, 353, 354, 355, 356, 357, 358, 362, 363, 364, 365, 366, 367, 368, 369, 370, 371, 372, 373, 374, 375, 376, 377, 378, 379, 380, 381, 382, 383, 384, 385, 513, 514, 515, 516, 517, 518, 519, 520, 521, 522, 523, 524, 525, 526, 527, 528, 529, 530, 531, 532, 533, 534, 535, 536, 537, 538, 539, 540, 541, 542, 543, 544, 545, 546, 547, 548, 549, 550, 551, 552, 553, 554, 555, 556, 557, 558, 559, 560, 561, 562, 563, 564, 565, 566, 567, 568, 569, 570, 571, 572, 573, 574, 575, 576, 577, 578, 579, 583, 584, 585, 586, 587, 588, 589, 590, 591, 592, 593, 594, 595, 596, 597, 598, 599, 600, 601, 602, 603, 618, 619, 620, 621, 622, 623, 624, 625, 626, 627, 609, 610, 611, 606, 607, 608, 604, 605, 612, 613, 614, 615, 616, 617, 628, 629, 630, 631, 632] (by decide +kernel) (by decide +kernel)) (goodIn_sub (fun _ h => List.mem_cons_of_mem _ (List.mem_append_left _ (List.mem_append_left _ (List.mem_append_right _ h)))) (by decide +kernel))) (goodIn_sub (fun _ h => List.mem_cons_of_mem _ (List.mem_append_left _ (List.mem_append_right _ h))) (by decide +kernel))) (goodIn_sub (fun _ h => List.mem_cons_of_mem _ (List.mem_append_right _ h)) (by decide +kernel))
set_option maxRecDepth 20000 in
theorem gL_glitch_L_act : GoodIn wsL_glitch (va_wsS RL 86 yL_act wsL_act) := goodIn_app (goodIn_of _ (by decide +kernel)) ggL_glitch_L_act
set_option maxRecDepth 20000 in
theorem ggL_glitch_X11_unlike : GoodIn wsL_glitch wsX11_unlike := goodIn_ca (goodIn_ca (goodIn_r _ [568, 7, 8, 192, 263, 569, 290, 120, 291, 9, 10, 11, 5, 12, 13, 14, 15, 22, 23, 24, 19, 25, 26, 570, 541, 542, 196, 543, 198, 199, 200, 201, 202, 203, 204, 90, 91, 92, 21, 205, 99, 100, 101, 35, 102, 103, 104, 42, 105, 44, 206, 207, 208, 209, 210, 211, 212, 213, 214, 107, 108, 109, 215, 125, 126, 127, 36, 216, 217, 218, 219, 220, 221, 222, 130, 131, 132, 37, 223, 224, 225, 226, 227, 228, 229, 38, 230, 231, 232, 233, 234, 68, 69, 70, 71, 235, 145, 146, 147, 76, 571, 572, 573, 574, 583, 584, 585, 586, 587, 588, 589, 590, 591, 592, 593, 594, 595, 596, 597, 598, 599, 600, 601, 602, 609, 610, 603, 611] (by decide +kernel) (by decide +kernel)) (goodIn_sub (fun _ h => List.mem_cons_of_mem _ (List.mem_append_left _ (List.mem_append_left _ (List.mem_append_right _ h)))) (by decide +kernel))) (goodIn_sub (fun _ h => List.mem_cons_of_mem _ (List.mem_append_left _ (List.mem_append_right _ h))) (by decide +kernel))
set_option maxRecDepth 20000 in
theorem gL_glitch_X11_unlike : GoodIn wsL_glitch (wsV RL 67 RX11 yX11_unlike wsX11_unlike) := goodIn_app (goodIn_of _ (by decide +kernel)) ggL_glitch_X11_unlike
set_option maxRecDepth 20000 in
theorem ggL_glitch_X11_cost : GoodIn wsL_glitch wsX11_cost := goodIn_ca (goodIn_ca (goodIn_r _ [489, 82, 97, 49, 50, 5, 51, 13, 14, 84, 85, 86, 87, 88, 110, 103, 104, 42, 105, 44, 490, 40, 41, 43, 583, 584, 585, 586, 587, 588, 589, 590, 591, 592, 593, 594, 603] (by decide +kernel) (by decide +kernel)) (goodIn_sub (fun _ h => List.mem_cons_of_mem _ (List.mem_append_left _ (List.mem_append_right _ h))) (by decide +kernel))) (goodIn_sub (fun _ h => List.mem_cons_of_mem _ (List.mem_append_right _ h)) (by decide +kernel))
set_option maxRecDepth 20000 in
theorem gL_glitch_X11_cost : GoodIn wsL_glitch (wsV RL 31 RX11 yX11_cost wsX11_cost) := goodIn_app (goodIn_of _ (by decide +kernel)) ggL_glitch_X11_cost
set_option maxRecDepth 20000 in
theorem ggL_glitch_L_net : GoodIn wsL_glitch wsL_net := goodIn_ca (goodIn_ca (goodIn_r _ [582, 77, 78, 79, 5, 80, 81, 82, 83, 9, 10, 11, 12, 13, 14, 15, 84, 85, 86, 87, 88, 89, 90, 91, 19, 92, 21, 22, 23, 24, 25, 26, 67, 68, 69, 70, 71, 93, 94, 95, 96, 97, 98, 99, 100, 101, 35, 102, 103, 104, 42, 105, 44, 106, 107, 108, 109, 110, 111, 112, 113, 114, 115, 116, 117, 118, 119, 120, 121, 122, 123, 124, 125, 126, 127, 36, 128, 129, 130, 131, 132, 37, 133, 134, 40, 41, 43, 135, 136, 137, 138, 139, 140, 141, 142, 143, 144, 145, 146, 147, 76, 148, 149, 150, 151, 152, 153, 154, 155, 156, 157, 158, 159, 160, 161, 162, 163, 164, 165, 166, 167, 168, 169, 170, 171, 172, 173, 174, 175, 176, 177, 178, 179, 180, 181, 182, 583, 584, 585, 586, 587, 588, 589, 590, 591, 592, 593, 594, 595, 596, 597, 598, 599, 600, 601, 602, 603, 604, 605, 606, 607, 608] (by decide +kernel) (by decide +kernel)) (goodIn_sub (fun _ h => List.mem_cons_of_mem _ (List.mem_append_left _ (List.mem_append_right _ h))) (by decide +kernel))) (goodIn_sub (fun _ h => List.mem_cons_of_mem _ (List.mem_append_right _ h)) (by decide +kernel))
set_option maxRecDepth 20000 in
theorem gL_glitch_L_net : GoodIn wsL_glitch (va_wsS RL 97 yL_net wsL_net) := goodIn_app (goodIn_of _ (by decide +kernel)) ggL_glitch_L_net
set_option maxRecDepth 20000 in
theorem ggL_glitch_X11_time : GoodIn wsL_glitch wsX11_time := goodIn_ca (goodIn_r _ [508, 81, 82, 9, 10, 11, 5, 12, 13, 14, 15, 52, 53, 54, 55, 56, 57, 19, 58, 21, 111, 112, 113, 114, 115, 116, 117, 118, 119, 120, 121, 122, 90, 91, 92, 123, 99, 100, 101, 35, 102, 103, 104, 42, 105, 44, 124, 125, 126, 127, 36, 128, 129, 130, 131, 132, 37, 133, 107, 108, 109, 134, 40, 41, 43, 509, 510, 511, 512, 583, 584, 585, 586, 587, 588, 589, 590, 591, 592, 593, 594, 595, 596, 597, 598, 599, 600, 601, 602, 604, 605, 603] (by decide +kernel) (by decide +kernel)) (goodIn_sub (fun _ h => List.mem_cons_of_mem _ (List.mem_append_left _ (List.mem_append_right _ h))) (by decide +kernel))
set_option maxRecDepth 20000 in
theorem gL_glitch_X11_time : GoodIn wsL_glitch (wsV RL 49 RX11 yX11_time wsX11_time) := goodIn_app (goodIn_of _ (by decide +kernel)) ggL_glitch_X11_time
set_option maxRecDepth 20000 in
theorem ggL_glitch_X11_stick : GoodIn wsL_glitch wsX11_stick := goodIn_ca (goodIn_ca (goodIn_r _ [494, 9, 10, 11, 5, 12, 13, 14, 15, 52, 53, 54, 55, 56, 57, 19, 58, 21, 84, 85, 86, 87, 88, 495, 227, 228, 229, 38, 102, 103, 104, 42, 105, 44, 496, 497, 498, 499, 39, 40, 41, 43, 583, 584, 585, 586, 587, 588, 589, 590, 591, 592, 593, 594, 595, 596, 597, 598, 599, 600, 601, 602, 603] (by decide +kernel) (by decide +kernel)) (goodIn_sub (fun _ h => List.mem_cons_of_mem _ (List.mem_append_left _ (List.mem_append_right _ h))) (by decide +kernel))) (goodIn_sub (fun _ h => List.mem_cons_of_mem _ (List.mem_append_right _ h)) (by decide +kernel))
set_option maxRecDepth 20000 in
theorem gL_glitch_X11_stick : GoodIn wsL_glitch (wsV RL 34 RX11 yX11_stick wsX11_stick) := goodIn_app (goodIn_of _ (by decide +kernel)) ggL_glitch_X11_stick
set_option maxRecDepth 20000 in
theorem ggL_glitch_X11_bit : GoodIn wsL_glitch wsX11_bit := goodIn_ca (goodIn_ca (goodIn_r _ [503, 191, 192, 9, 10, 11, 5, 12, 13, 14, 15, 52, 53, 54, 55, 56, 57, 19, 58, 21, 84, 85, 86, 87, 88, 193, 194, 195, 196, 197, 198, 199, 200, 201, 202, 203, 204, 90, 91, 92, 205, 99, 100, 101, 35, 102, 103, 104, 42, 105, 44, 206, 207, 208, 209, 210, 211, 212, 213, 214, 107, 108, 109, 215, 125, 126, 127, 36, 216, 217, 218, 219, 220, 221, 222, 130, 131, 132, 37, 223, 224, 225, 226, 227, 228, 229, 38, 230, 231, 232, 233, 234, 68, 69, 70, 71, 235, 145, 146, 147, 76, 504, 359, 360, 361, 583, 584, 585, 586, 587, 588, 589, 590, 591, 592, 593, 594, 595, 596, 597, 598, 599, 600, 601, 602, 609, 610, 603, 611] (by decide +kernel) (by decide +kernel)) (goodIn_sub (fun _ h => List.mem_cons_of_mem _ (List.mem_append_left _ (List.mem_append_right _ h))) (by decide +kernel))) (goodIn_sub (fun _ h => List.mem_cons_of_mem _ (List.mem_append_right _ h)) (by decide +kernel))
set_option maxRecDepth 20000 in
theorem gL_glitch_X11_bit : GoodIn wsL_glitch (wsV RL 37 RX11 yX11_bit wsX11_bit) := goodIn_app (goodIn_of _ (by decide +kernel)) ggL_glitch_X11_bit
set_option maxRecDepth 20000 in
theorem ggL_glitch_X11_clear : GoodIn wsL_glitch wsX11_clear := goodIn_ca (goodIn_r _ [481, 9, 10, 11, 5, 12, 13, 14, 15, 89, 90, 91, 19, 92, 21, 482, 483, 484, 485, 26, 71, 583, 584, 585, 586, 587, 588, 589, 590, 591, 592, 593, 594, 595, 596, 597, 598, 599, 600, 601, 602] (by decide +kernel) (by decide +kernel)) (goodIn_sub (fun _ h => List.mem_cons_of_mem _ (List.mem_append_left _ (List.mem_append_right _ h))) (by decide +kernel))
set_option maxRecDepth 20000 in
theorem gL_glitch_X11_clear : GoodIn wsL_glitch (wsV RL 28 RX11 yX11_clear wsX11_clear) := goodIn_app (goodIn_of _ (by decide +kernel)) ggL_glitch_X11_clear
theorem dL_glitch_0 : decode cL_glitch 0 = .ok (.aload_n 0, 1) := by decide +kernel
theorem dL_glitch_1 : decode cL_glitch 1 = .ok (.iconst 3, 1) := by decide +kernel
theorem dL_glitch_2 : decode cL_glitch 2 = .ok (.invokevirtual 7, 3) := by decide +kernel
theorem dL_glitch_5 : decode cL_glitch 5 = .ok (.ifCond .ne 166, 3) := by decide +kernel
theorem dL_glitch_8 : decode cL_glitch 8 = .ok (.aload_n 0, 1) := by decide +kernel
theorem dL_glitch_9 : decode cL_glitch 9 = .ok (.iconst 3, 1) := by decide +kernel
theorem dL_glitch_10 : decode cL_glitch 10 = .ok (.iconst 3, 1) := by decide +kernel
theorem dL_glitch_11 : decode cL_glitch 11 = .ok (.iconst 0, 1) := by decide +kernel
theorem dL_glitch_12 : decode cL_glitch 12 = .ok (.bipush (-5), 2) := by decide +kernel
theorem dL_glitch_14 : decode cL_glitch 14 = .ok (.invokevirtual 13, 3) := by decide +kernel
theorem dL_glitch_17 : decode cL_glitch 17 = .ok (.iconst 1, 1) := by decide +kernel
theorem dL_glitch_18 : decode cL_glitch 18 = .ok (.if_icmp .ne 153, 3) := by decide +kernel
theorem dL_glitch_21 : decode cL_glitch 21 = .ok (.aload_n 0, 1) := by decide +kernel
theorem dL_glitch_22 : decode cL_glitch 22 = .ok (.iconst 3, 1) := by decide +kernel
theorem dL_glitch_23 : decode cL_glitch 23 = .ok (.iconst 0, 1) := by decide +kernel
theorem dL_glitch_24 : decode cL_glitch 24 = .ok (.iconst 0, 1) := by decide +kernel
theorem dL_glitch_25 : decode cL_glitch 25 = .ok (.iconst 1, 1) := by decide +kernel
theorem dL_glitch_26 : decode cL_glitch 26 = .ok (.invokevirtual 13, 3) := by decide +kernel
theorem dL_glitch_29 : decode cL_glitch 29 = .ok (.iconst 2, 1) := by decide +kernel
theorem dL_glitch_30 : decode cL_glitch 30 = .ok (.if_icmp .ne 141, 3) := by decide +kernel
theorem dL_glitch_33 : decode cL_glitch 33 = .ok (.aload_n 0, 1) := by decide +kernel
theorem dL_glitch_34 : decode cL_glitch 34 = .ok (.iconst 3, 1) := by decide +kernel
theorem dL_glitch_35 : decode cL_glitch 35 = .ok (.iconst 2, 1) := by decide +kernel
theorem dL_glitch_36 : decode cL_glitch 36 = .ok (.invokevirtual 17, 3) := by decide +kernel
theorem dL_glitch_39 : decode cL_glitch 39 = .ok (.ifCond .ne 132, 3) := by decide +kernel
theorem dL_glitch_42 : decode cL_glitch 42 = .ok (.aload_n 0, 1) := by decide +kernel
theorem dL_glitch_43 : decode cL_glitch 43 = .ok (.iconst 3, 1) := by decide +kernel
theorem dL_glitch_44 : decode cL_glitch 44 = .ok (.iconst 2, 1) := by decide +kernel
theorem dL_glitch_45 : decode cL_glitch 45 = .ok (.invokevirtual 17, 3) := by decide +kernel
theorem dL_glitch_48 : decode cL_glitch 48 = .ok (.iconst 1, 1) := by decide +kernel
theorem dL_glitch_49 : decode cL_glitch 49 = .ok (.if_icmp .ne 122, 3) := by decide +kernel
theorem dL_glitch_52 : decode cL_glitch 52 = .ok (.aload_n 0, 1) := by decide +kernel
theorem dL_glitch_53 : decode cL_glitch 53 = .ok (.iconst 3, 1) := by decide +kernel
theorem dL_glitch_54 : decode cL_glitch 54 = .ok (.iconst 0, 1) := by decide +kernel
theorem dL_glitch_55 : decode cL_glitch 55 = .ok (.invokevirtual 17, 3) := by decide +kernel
theorem dL_glitch_58 : decode cL_glitch 58 = .ok (.iconst 2, 1) := by decide +kernel
theorem dL_glitch_59 : decode cL_glitch 59 = .ok (.if_icmp .ne 112, 3) := by decide +kernel
theorem dL_glitch_62 : decode cL_glitch 62 = .ok (.aload_n 0, 1) := by decide +kernel
theorem dL_glitch_63 : decode cL_glitch 63 = .ok (.iconst 3, 1) := by decide +kernel
theorem dL_glitch_64 : decode cL_glitch 64 = .ok (.iconst 5, 1) := by decide +kernel
theorem dL_glitch_65 : decode cL_glitch 65 = .ok (.invokevirtual 46, 3) := by decide +kernel
theorem dL_glitch_68 : decode cL_glitch 68 = .ok (.iconst 3, 1) := by decide +kernel
theorem dL_glitch_69 : decode cL_glitch 69 = .ok (.if_icmp .ne 102, 3) := by decide +kernel
theorem dL_glitch_72 : decode cL_glitch 72 = .ok (.aload_n 0, 1) := by decide +kernel
theorem dL_glitch_73 : decode cL_glitch 73 = .ok (.iconst 3, 1) := by decide +kernel
theorem dL_glitch_74 : decode cL_glitch 74 = .ok (.iconst 1, 1) := by decide +kernel
theorem dL_glitch_75 : decode cL_glitch 75 = .ok (.iconst 4, 1) := by decide +kernel
theorem dL_glitch_76 : decode cL_glitch 76 = .ok (.invokestatic 102, 3) := by decide +kernel
theorem dL_glitch_79 : decode cL_glitch 79 = .ok (.ifCond .eq 92, 3) := by decide +kernel
theorem dL_glitch_82 : decode cL_glitch 82 = .ok (.aload_n 0, 1) := by decide +kernel
theorem dL_glitch_83 : decode cL_glitch 83 = .ok (.iconst 3, 1) := by decide +kernel
theorem dL_glitch_84 : decode cL_glitch 84 = .ok (.iconst 0, 1) := by decide +kernel
theorem dL_glitch_85 : decode cL_glitch 85 = .ok (.iconst 0, 1) := by decide +kernel
theorem dL_glitch_86 : decode cL_glitch 86 = .ok (.invokestatic 102, 3) := by decide +kernel
theorem dL_glitch_89 : decode cL_glitch 89 = .ok (.ifCond .eq 82, 3) := by decide +kernel
theorem dL_glitch_92 : decode cL_glitch 92 = .ok (.aload_n 0, 1) := by decide +kernel
theorem dL_glitch_93 : decode cL_glitch 93 = .ok (.iconst 3, 1) := by decide +kernel
theorem dL_glitch_94 : decode cL_glitch 94 = .ok (.iconst 0, 1) := by decide +kernel
theorem dL_glitch_95 : decode cL_glitch 95 = .ok (.iconst 1, 1) := by decide +kernel
theorem dL_glitch_96 : decode cL_glitch 96 = .ok (.iconst 3, 1) := by decide +kernel
theorem dL_glitch_97 : decode cL_glitch 97 = .ok (.iconst 2, 1) := by decide +kernel
theorem dL_glitch_98 : decode cL_glitch 98 = .ok (.iconst 2, 1) := by decide +kernel
theorem dL_glitch_99 : decode cL_glitch 99 = .ok (.invokestatic 108, 3) := by decide +kernel
theorem dL_glitch_102 : decode cL_glitch 102 = .ok (.ifCond .eq 69, 3) := by decide +kernel
theorem dL_glitch_105 : decode cL_glitch 105 = .ok (.aload_n 0, 1) := by decide +kernel
theorem dL_glitch_106 : decode cL_glitch 106 = .ok (.iconst 3, 1) := by decide +kernel
theorem dL_glitch_107 : decode cL_glitch 107 = .ok (.iconst 1, 1) := by decide +kernel
theorem dL_glitch_108 : decode cL_glitch 108 = .ok (.iconst 0, 1) := by decide +kernel
theorem dL_glitch_109 : decode cL_glitch 109 = .ok (.iconst 1, 1) := by decide +kernel
theorem dL_glitch_110 : decode cL_glitch 110 = .ok (.iconst 1, 1) := by decide +kernel
theorem dL_glitch_111 : decode cL_glitch 111 = .ok (.iconst 0, 1) := by decide +kernel
theorem dL_glitch_112 : decode cL_glitch 112 = .ok (.invokestatic 108, 3) := by decide +kernel
theorem dL_glitch_115 : decode cL_glitch 115 = .ok (.ifCond .eq 56, 3) := by decide +kernel
theorem dL_glitch_118 : decode cL_glitch 118 = .ok (.aload_n 0, 1) := by decide +kernel
theorem dL_glitch_119 : decode cL_glitch 119 = .ok (.iconst 3, 1) := by decide +kernel
theorem dL_glitch_120 : decode cL_glitch 120 = .ok (.iconst 2, 1) := by decide +kernel
theorem dL_glitch_121 : decode cL_glitch 121 = .ok (.iconst 1, 1) := by decide +kernel
theorem dL_glitch_122 : decode cL_glitch 122 = .ok (.iconst 0, 1) := by decide +kernel
theorem dL_glitch_123 : decode cL_glitch 123 = .ok (.iconst (-1), 1) := by decide +kernel
theorem dL_glitch_124 : decode cL_glitch 124 = .ok (.iconst (-1), 1) := by decide +kernel
theorem dL_glitch_125 : decode cL_glitch 125 = .ok (.invokestatic 105, 3) := by decide +kernel
theorem dL_glitch_128 : decode cL_glitch 128 = .ok (.ifCond .eq 43, 3) := by decide +kernel
theorem dL_glitch_131 : decode cL_glitch 131 = .ok (.aload_n 0, 1) := by decide +kernel
theorem dL_glitch_132 : decode cL_glitch 132 = .ok (.bipush 16, 2) := by decide +kernel
theorem dL_glitch_134 : decode cL_glitch 134 = .ok (.iconst 3, 1) := by decide +kernel
theorem dL_glitch_135 : decode cL_glitch 135 = .ok (.iconst 0, 1) := by decide +kernel
theorem dL_glitch_136 : decode cL_glitch 136 = .ok (.iconst 0, 1) := by decide +kernel
theorem dL_glitch_137 : decode cL_glitch 137 = .ok (.iconst 0, 1) := by decide +kernel
theorem dL_glitch_138 : decode cL_glitch 138 = .ok (.invokestatic 86, 3) := by decide +kernel
theorem dL_glitch_141 : decode cL_glitch 141 = .ok (.ldc 81, 2) := by decide +kernel
theorem dL_glitch_143 : decode cL_glitch 143 = .ok (.if_icmp .ne 28, 3) := by decide +kernel
theorem dL_glitch_146 : decode cL_glitch 146 = .ok (.aload_n 0, 1) := by decide +kernel
theorem dL_glitch_147 : decode cL_glitch 147 = .ok (.bipush 17, 2) := by decide +kernel
theorem dL_glitch_149 : decode cL_glitch 149 = .ok (.iconst 3, 1) := by decide +kernel
theorem dL_glitch_150 : decode cL_glitch 150 = .ok (.iconst 0, 1) := by decide +kernel
theorem dL_glitch_151 : decode cL_glitch 151 = .ok (.iconst 5, 1) := by decide +kernel
theorem dL_glitch_152 : decode cL_glitch 152 = .ok (.iconst 0, 1) := by decide +kernel
theorem dL_glitch_153 : decode cL_glitch 153 = .ok (.invokestatic 86, 3) := by decide +kernel
theorem dL_glitch_156 : decode cL_glitch 156 = .ok (.ldc 81, 2) := by decide +kernel
theorem dL_glitch_158 : decode cL_glitch 158 = .ok (.if_icmp .ne 13, 3) := by decide +kernel
theorem dL_glitch_161 : decode cL_glitch 161 = .ok (.aload_n 0, 1) := by decide +kernel
theorem dL_glitch_162 : decode cL_glitch 162 = .ok (.iconst 3, 1) := by decide +kernel
theorem dL_glitch_163 : decode cL_glitch 163 = .ok (.iconst 3, 1) := by decide +kernel
theorem dL_glitch_164 : decode cL_glitch 164 = .ok (.invokevirtual 67, 3) := by decide +kernel
theorem dL_glitch_167 : decode cL_glitch 167 = .ok (.iconst (-1), 1) := by decide +kernel
theorem dL_glitch_168 : decode cL_glitch 168 = .ok (.if_icmp .eq 5, 3) := by decide +kernel
theorem dL_glitch_171 : decode cL_glitch 171 = .ok (.iconst 0, 1) := by decide +kernel
theorem dL_glitch_172 : decode cL_glitch 172 = .ok (.ireturn, 1) := by decide +kernel
theorem dL_glitch_173 : decode cL_glitch 173 = .ok (.aload_n 0, 1) := by decide +kernel
theorem dL_glitch_174 : decode cL_glitch 174 = .ok (.iconst 0, 1) := by decide +kernel
theorem dL_glitch_175 : decode cL_glitch 175 = .ok (.iconst 3, 1) := by decide +kernel
theorem dL_glitch_176 : decode cL_glitch 176 = .ok (.iconst 5, 1) := by decide +kernel
theorem dL_glitch_177 : decode cL_glitch 177 = .ok (.invokevirtual 31, 3) := by decide +kernel
theorem dL_glitch_180 : decode cL_glitch 180 = .ok (.iconst 1, 1) := by decide +kernel
theorem dL_glitch_181 : decode cL_glitch 181 = .ok (.if_icmp .ne 225, 3) := by decide +kernel
theorem dL_glitch_184 : decode cL_glitch 184 = .ok (.aload_n 0, 1) := by decide +kernel
theorem dL_glitch_185 : decode cL_glitch 185 = .ok (.iconst 3, 1) := by decide +kernel
theorem dL_glitch_186 : decode cL_glitch 186 = .ok (.iconst 3, 1) := by decide +kernel
theorem dL_glitch_187 : decode cL_glitch 187 = .ok (.iconst 1, 1) := by decide +kernel
theorem dL_glitch_188 : decode cL_glitch 188 = .ok (.iconst 3, 1) := by decide +kernel
theorem dL_glitch_189 : decode cL_glitch 189 = .ok (.bipush 6, 2) := by decide +kernel
theorem dL_glitch_191 : decode cL_glitch 191 = .ok (.iconst 4, 1) := by decide +kernel
theorem dL_glitch_192 : decode cL_glitch 192 = .ok (.iconst 0, 1) := by decide +kernel
theorem dL_glitch_193 : decode cL_glitch 193 = .ok (.invokestatic 97, 3) := by decide +kernel
theorem dL_glitch_196 : decode cL_glitch 196 = .ok (.ifCond .eq 210, 3) := by decide +kernel
theorem dL_glitch_199 : decode cL_glitch 199 = .ok (.aload_n 0, 1) := by decide +kernel
theorem dL_glitch_200 : decode cL_glitch 200 = .ok (.iconst 3, 1) := by decide +kernel
theorem dL_glitch_201 : decode cL_glitch 201 = .ok (.iconst 2, 1) := by decide +kernel
theorem dL_glitch_202 : decode cL_glitch 202 = .ok (.invokevirtual 49, 3) := by decide +kernel
theorem dL_glitch_205 : decode cL_glitch 205 = .ok (.iconst 4, 1) := by decide +kernel
theorem dL_glitch_206 : decode cL_glitch 206 = .ok (.if_icmp .ne 200, 3) := by decide +kernel
theorem dL_glitch_209 : decode cL_glitch 209 = .ok (.aload_n 0, 1) := by decide +kernel
theorem dL_glitch_210 : decode cL_glitch 210 = .ok (.iconst 3, 1) := by decide +kernel
theorem dL_glitch_211 : decode cL_glitch 211 = .ok (.iconst 0, 1) := by decide +kernel
theorem dL_glitch_212 : decode cL_glitch 212 = .ok (.iconst 1, 1) := by decide +kernel
theorem dL_glitch_213 : decode cL_glitch 213 = .ok (.iconst 3, 1) := by decide +kernel
theorem dL_glitch_214 : decode cL_glitch 214 = .ok (.iconst 4, 1) := by decide +kernel
theorem dL_glitch_215 : decode cL_glitch 215 = .ok (.iconst 2, 1) := by decide +kernel
theorem dL_glitch_216 : decode cL_glitch 216 = .ok (.invokestatic 108, 3) := by decide +kernel
theorem dL_glitch_219 : decode cL_glitch 219 = .ok (.ifCond .eq 187, 3) := by decide +kernel
theorem dL_glitch_222 : decode cL_glitch 222 = .ok (.aload_n 0, 1) := by decide +kernel
theorem dL_glitch_223 : decode cL_glitch 223 = .ok (.iconst 3, 1) := by decide +kernel
theorem dL_glitch_224 : decode cL_glitch 224 = .ok (.iconst 1, 1) := by decide +kernel
theorem dL_glitch_225 : decode cL_glitch 225 = .ok (.iconst 1, 1) := by decide +kernel
theorem dL_glitch_226 : decode cL_glitch 226 = .ok (.invokevirtual 34, 3) := by decide +kernel
theorem dL_glitch_229 : decode cL_glitch 229 = .ok (.iconst (-1), 1) := by decide +kernel
theorem dL_glitch_230 : decode cL_glitch 230 = .ok (.if_icmp .ne 176, 3) := by decide +kernel
theorem dL_glitch_233 : decode cL_glitch 233 = .ok (.aload_n 0, 1) := by decide +kernel
theorem dL_glitch_234 : decode cL_glitch 234 = .ok (.iconst 3, 1) := by decide +kernel
theorem dL_glitch_235 : decode cL_glitch 235 = .ok (.iconst 0, 1) := by decide +kernel
theorem dL_glitch_236 : decode cL_glitch 236 = .ok (.iconst 1, 1) := by decide +kernel
theorem dL_glitch_237 : decode cL_glitch 237 = .ok (.iconst 1, 1) := by decide +kernel
theorem dL_glitch_238 : decode cL_glitch 238 = .ok (.iconst 3, 1) := by decide +kernel
theorem dL_glitch_239 : decode cL_glitch 239 = .ok (.iconst 1, 1) := by decide +kernel
theorem dL_glitch_240 : decode cL_glitch 240 = .ok (.invokestatic 108, 3) := by decide +kernel
theorem dL_glitch_243 : decode cL_glitch 243 = .ok (.ifCond .eq 163, 3) := by decide +kernel
theorem dL_glitch_246 : decode cL_glitch 246 = .ok (.aload_n 0, 1) := by decide +kernel
theorem dL_glitch_247 : decode cL_glitch 247 = .ok (.iconst 3, 1) := by decide +kernel
theorem dL_glitch_248 : decode cL_glitch 248 = .ok (.iconst 1, 1) := by decide +kernel
theorem dL_glitch_249 : decode cL_glitch 249 = .ok (.bipush 7, 2) := by decide +kernel
theorem dL_glitch_251 : decode cL_glitch 251 = .ok (.invokestatic 102, 3) := by decide +kernel
theorem dL_glitch_254 : decode cL_glitch 254 = .ok (.ifCond .eq 152, 3) := by decide +kernel
theorem dL_glitch_257 : decode cL_glitch 257 = .ok (.aload_n 0, 1) := by decide +kernel
theorem dL_glitch_258 : decode cL_glitch 258 = .ok (.iconst 3, 1) := by decide +kernel
theorem dL_glitch_259 : decode cL_glitch 259 = .ok (.iconst 1, 1) := by decide +kernel
theorem dL_glitch_260 : decode cL_glitch 260 = .ok (.iconst (-1), 1) := by decide +kernel
theorem dL_glitch_261 : decode cL_glitch 261 = .ok (.invokevirtual 34, 3) := by decide +kernel
theorem dL_glitch_264 : decode cL_glitch 264 = .ok (.iconst 1, 1) := by decide +kernel
theorem dL_glitch_265 : decode cL_glitch 265 = .ok (.if_icmp .ne 141, 3) := by decide +kernel
theorem dL_glitch_268 : decode cL_glitch 268 = .ok (.aload_n 0, 1) := by decide +kernel
theorem dL_glitch_269 : decode cL_glitch 269 = .ok (.iconst 0, 1) := by decide +kernel
theorem dL_glitch_270 : decode cL_glitch 270 = .ok (.bipush 9, 2) := by decide +kernel
theorem dL_glitch_272 : decode cL_glitch 272 = .ok (.iconst 0, 1) := by decide +kernel
theorem dL_glitch_273 : decode cL_glitch 273 = .ok (.invokevirtual 31, 3) := by decide +kernel
theorem dL_glitch_276 : decode cL_glitch 276 = .ok (.iconst 3, 1) := by decide +kernel
theorem dL_glitch_277 : decode cL_glitch 277 = .ok (.if_icmp .ne 129, 3) := by decide +kernel
theorem dL_glitch_280 : decode cL_glitch 280 = .ok (.aload_n 0, 1) := by decide +kernel
theorem dL_glitch_281 : decode cL_glitch 281 = .ok (.iconst 3, 1) := by decide +kernel
theorem dL_glitch_282 : decode cL_glitch 282 = .ok (.iconst 0, 1) := by decide +kernel
theorem dL_glitch_283 : decode cL_glitch 283 = .ok (.iconst 1, 1) := by decide +kernel
theorem dL_glitch_284 : decode cL_glitch 284 = .ok (.iconst 3, 1) := by decide +kernel
theorem dL_glitch_285 : decode cL_glitch 285 = .ok (.bipush 10, 2) := by decide +kernel
theorem dL_glitch_287 : decode cL_glitch 287 = .ok (.iconst 2, 1) := by decide +kernel
theorem dL_glitch_288 : decode cL_glitch 288 = .ok (.invokestatic 108, 3) := by decide +kernel
theorem dL_glitch_291 : decode cL_glitch 291 = .ok (.ifCond .eq 115, 3) := by decide +kernel
theorem dL_glitch_294 : decode cL_glitch 294 = .ok (.aload_n 0, 1) := by decide +kernel
theorem dL_glitch_295 : decode cL_glitch 295 = .ok (.iconst 3, 1) := by decide +kernel
theorem dL_glitch_296 : decode cL_glitch 296 = .ok (.iconst 3, 1) := by decide +kernel
theorem dL_glitch_297 : decode cL_glitch 297 = .ok (.invokevirtual 46, 3) := by decide +kernel
theorem dL_glitch_300 : decode cL_glitch 300 = .ok (.iconst 1, 1) := by decide +kernel
theorem dL_glitch_301 : decode cL_glitch 301 = .ok (.if_icmp .ne 105, 3) := by decide +kernel
theorem dL_glitch_304 : decode cL_glitch 304 = .ok (.aload_n 0, 1) := by decide +kernel
theorem dL_glitch_305 : decode cL_glitch 305 = .ok (.iconst 0, 1) := by decide +kernel
theorem dL_glitch_306 : decode cL_glitch 306 = .ok (.iconst 1, 1) := by decide +kernel
theorem dL_glitch_307 : decode cL_glitch 307 = .ok (.iconst 1, 1) := by decide +kernel
theorem dL_glitch_308 : decode cL_glitch 308 = .ok (.invokevirtual 31, 3) := by decide +kernel
theorem dL_glitch_311 : decode cL_glitch 311 = .ok (.bipush 9, 2) := by decide +kernel
theorem dL_glitch_313 : decode cL_glitch 313 = .ok (.if_icmp .ne 93, 3) := by decide +kernel
theorem dL_glitch_316 : decode cL_glitch 316 = .ok (.aload_n 0, 1) := by decide +kernel
theorem dL_glitch_317 : decode cL_glitch 317 = .ok (.iconst 3, 1) := by decide +kernel
theorem dL_glitch_318 : decode cL_glitch 318 = .ok (.iconst 1, 1) := by decide +kernel
theorem dL_glitch_319 : decode cL_glitch 319 = .ok (.iconst 1, 1) := by decide +kernel
theorem dL_glitch_320 : decode cL_glitch 320 = .ok (.invokevirtual 31, 3) := by decide +kernel
theorem dL_glitch_323 : decode cL_glitch 323 = .ok (.iconst 1, 1) := by decide +kernel
theorem dL_glitch_324 : decode cL_glitch 324 = .ok (.if_icmp .ne 82, 3) := by decide +kernel
theorem dL_glitch_327 : decode cL_glitch 327 = .ok (.aload_n 0, 1) := by decide +kernel
theorem dL_glitch_328 : decode cL_glitch 328 = .ok (.iconst 3, 1) := by decide +kernel
theorem dL_glitch_329 : decode cL_glitch 329 = .ok (.iconst 1, 1) := by decide +kernel
theorem dL_glitch_330 : decode cL_glitch 330 = .ok (.iconst 1, 1) := by decide +kernel
theorem dL_glitch_331 : decode cL_glitch 331 = .ok (.iconst 1, 1) := by decide +kernel
theorem dL_glitch_332 : decode cL_glitch 332 = .ok (.invokevirtual 13, 3) := by decide +kernel
theorem dL_glitch_335 : decode cL_glitch 335 = .ok (.iconst 3, 1) := by decide +kernel
theorem dL_glitch_336 : decode cL_glitch 336 = .ok (.if_icmp .ne 70, 3) := by decide +kernel
theorem dL_glitch_339 : decode cL_glitch 339 = .ok (.aload_n 0, 1) := by decide +kernel
theorem dL_glitch_340 : decode cL_glitch 340 = .ok (.iconst 3, 1) := by decide +kernel
theorem dL_glitch_341 : decode cL_glitch 341 = .ok (.iconst 2, 1) := by decide +kernel
theorem dL_glitch_342 : decode cL_glitch 342 = .ok (.iconst 3, 1) := by decide +kernel
theorem dL_glitch_343 : decode cL_glitch 343 = .ok (.iconst 3, 1) := by decide +kernel
theorem dL_glitch_344 : decode cL_glitch 344 = .ok (.invokevirtual 13, 3) := by decide +kernel
theorem dL_glitch_347 : decode cL_glitch 347 = .ok (.iconst 4, 1) := by decide +kernel
theorem dL_glitch_348 : decode cL_glitch 348 = .ok (.if_icmp .ne 58, 3) := by decide +kernel
theorem dL_glitch_351 : decode cL_glitch 351 = .ok (.aload_n 0, 1) := by decide +kernel
theorem dL_glitch_352 : decode cL_glitch 352 = .ok (.iconst 3, 1) := by decide +kernel
theorem dL_glitch_353 : decode cL_glitch 353 = .ok (.bipush 6, 2) := by decide +kernel
theorem dL_glitch_355 : decode cL_glitch 355 = .ok (.invokevirtual 46, 3) := by decide +kernel
theorem dL_glitch_358 : decode cL_glitch 358 = .ok (.iconst 2, 1) := by decide +kernel
theorem dL_glitch_359 : decode cL_glitch 359 = .ok (.if_icmp .ne 47, 3) := by decide +kernel
theorem dL_glitch_362 : decode cL_glitch 362 = .ok (.aload_n 0, 1) := by decide +kernel
theorem dL_glitch_363 : decode cL_glitch 363 = .ok (.iconst 3, 1) := by decide +kernel
theorem dL_glitch_364 : decode cL_glitch 364 = .ok (.iconst 3, 1) := by decide +kernel
theorem dL_glitch_365 : decode cL_glitch 365 = .ok (.iconst 0, 1) := by decide +kernel
theorem dL_glitch_366 : decode cL_glitch 366 = .ok (.invokevirtual 37, 3) := by decide +kernel
theorem dL_glitch_369 : decode cL_glitch 369 = .ok (.iconst 1, 1) := by decide +kernel
theorem dL_glitch_370 : decode cL_glitch 370 = .ok (.if_icmp .ne 36, 3) := by decide +kernel
theorem dL_glitch_373 : decode cL_glitch 373 = .ok (.aload_n 0, 1) := by decide +kernel
theorem dL_glitch_374 : decode cL_glitch 374 = .ok (.iconst 3, 1) := by decide +kernel
theorem dL_glitch_375 : decode cL_glitch 375 = .ok (.iconst 4, 1) := by decide +kernel
theorem dL_glitch_376 : decode cL_glitch 376 = .ok (.iconst 0, 1) := by decide +kernel
theorem dL_glitch_377 : decode cL_glitch 377 = .ok (.invokevirtual 37, 3) := by decide +kernel
theorem dL_glitch_380 : decode cL_glitch 380 = .ok (.ifCond .ne 26, 3) := by decide +kernel
theorem dL_glitch_383 : decode cL_glitch 383 = .ok (.aload_n 0, 1) := by decide +kernel
theorem dL_glitch_384 : decode cL_glitch 384 = .ok (.iconst 3, 1) := by decide +kernel
theorem dL_glitch_385 : decode cL_glitch 385 = .ok (.iconst 5, 1) := by decide +kernel
theorem dL_glitch_386 : decode cL_glitch 386 = .ok (.invokevirtual 46, 3) := by decide +kernel
theorem dL_glitch_389 : decode cL_glitch 389 = .ok (.iconst 3, 1) := by decide +kernel
theorem dL_glitch_390 : decode cL_glitch 390 = .ok (.if_icmp .ne 16, 3) := by decide +kernel
theorem dL_glitch_393 : decode cL_glitch 393 = .ok (.aload_n 0, 1) := by decide +kernel
theorem dL_glitch_394 : decode cL_glitch 394 = .ok (.iconst 3, 1) := by decide +kernel
theorem dL_glitch_395 : decode cL_glitch 395 = .ok (.invokevirtual 28, 3) := by decide +kernel
theorem dL_glitch_398 : decode cL_glitch 398 = .ok (.iconst 5, 1) := by decide +kernel
theorem dL_glitch_399 : decode cL_glitch 399 = .ok (.if_icmp .ne 7, 3) := by decide +kernel
theorem dL_glitch_402 : decode cL_glitch 402 = .ok (.iconst 1, 1) := by decide +kernel
theorem dL_glitch_403 : decode cL_glitch 403 = .ok (.goto 4, 3) := by decide +kernel
theorem dL_glitch_406 : decode cL_glitch 406 = .ok (.iconst 0, 1) := by decide +kernel
theorem dL_glitch_407 : decode cL_glitch 407 = .ok (.ireturn, 1) := by decide +kernel
set_option maxRecDepth 20000 in
theorem ggL_digits_X11_digit : GoodIn wsL_digits wsX11_digit := goodIn_ca (goodIn_ca (goodIn_r _ [9, 10, 11, 12, 13, 14, 8, 15, 16, 17] (by decide +kernel) (by decide +kernel)) (goodIn_sub (fun _ h => List.mem_cons_of_mem _ (List.mem_append_left _ (List.mem_append_right _ h))) (by decide +kernel))) (goodIn_sub (fun _ h => List.mem_cons_of_mem _ (List.mem_append_right _ h)) (by decide +kernel))
set_option maxRecDepth 20000 in
theorem gL_digits_X11_digit : GoodIn wsL_digits (wsV RL 70 RX11 yX11_digit wsX11_digit) := goodIn_app (goodIn_of _ (by decide +kernel)) ggL_digits_X11_digit
theorem dL_digits_0 : decode cL_digits 0 = .ok (.iconst 0, 1) := by decide +kernel
theorem dL_digits_1 : decode cL_digits 1 = .ok (.istore_n 1, 1) := by decide +kernel
theorem dL_digits_2 : decode cL_digits 2 = .ok (.iconst 1, 1) := by decide +kernel
theorem dL_digits_3 : decode cL_digits 3 = .ok (.istore_n 2, 1) := by decide +kernel
theorem dL_digits_4 : decode cL_digits 4 = .ok (.iconst 0, 1) := by decide +kernel
theorem dL_digits_5 : decode cL_digits 5 = .ok (.istore_n 3, 1) := by decide +kernel
theorem dL_digits_6 : decode cL_digits 6 = .ok (.iload_n 3, 1) := by decide +kernel
theorem dL_digits_7 : decode cL_digits 7 = .ok (.bipush 16, 2) := by decide +kernel
theorem dL_digits_9 : decode cL_digits 9 = .ok (.if_icmp .ge 85, 3) := by decide +kernel
theorem dL_digits_12 : decode cL_digits 12 = .ok (.aload_n 0, 1) := by decide +kernel
theorem dL_digits_13 : decode cL_digits 13 = .ok (.iconst 0, 1) := by decide +kernel
theorem dL_digits_14 : decode cL_digits 14 = .ok (.iload_n 3, 1) := by decide +kernel
theorem dL_digits_15 : decode cL_digits 15 = .ok (.invokevirtual 70, 3) := by decide +kernel
theorem dL_digits_18 : decode cL_digits 18 = .ok (.ifCond .ne 32, 3) := by decide +kernel
theorem dL_digits_21 : decode cL_digits 21 = .ok (.aload_n 0, 1) := by decide +kernel
theorem dL_digits_22 : decode cL_digits 22 = .ok (.ldc 82, 2) := by decide +kernel
theorem dL_digits_24 : decode cL_digits 24 = .ok (.iload_n 3, 1) := by decide +kernel
theorem dL_digits_25 : decode cL_digits 25 = .ok (.invokevirtual 70, 3) := by decide +kernel
theorem dL_digits_28 : decode cL_digits 28 = .ok (.iload_n 3, 1) := by decide +kernel
theorem dL_digits_29 : decode cL_digits 29 = .ok (.ifCond .ne 7, 3) := by decide +kernel
theorem dL_digits_32 : decode cL_digits 32 = .ok (.iconst (-1), 1) := by decide +kernel
theorem dL_digits_33 : decode cL_digits 33 = .ok (.goto 14, 3) := by decide +kernel
theorem dL_digits_36 : decode cL_digits 36 = .ok (.iload_n 3, 1) := by decide +kernel
theorem dL_digits_37 : decode cL_digits 37 = .ok (.bipush 15, 2) := by decide +kernel
theorem dL_digits_39 : decode cL_digits 39 = .ok (.if_icmp .ne 7, 3) := by decide +kernel
theorem dL_digits_42 : decode cL_digits 42 = .ok (.iconst 2, 1) := by decide +kernel
theorem dL_digits_43 : decode cL_digits 43 = .ok (.goto 4, 3) := by decide +kernel
theorem dL_digits_46 : decode cL_digits 46 = .ok (.iconst 0, 1) := by decide +kernel
theorem dL_digits_47 : decode cL_digits 47 = .ok (.if_icmp .eq 5, 3) := by decide +kernel
theorem dL_digits_50 : decode cL_digits 50 = .ok (.iconst 0, 1) := by decide +kernel
theorem dL_digits_51 : decode cL_digits 51 = .ok (.ireturn, 1) := by decide +kernel
theorem dL_digits_52 : decode cL_digits 52 = .ok (.iload_n 1, 1) := by decide +kernel
theorem dL_digits_53 : decode cL_digits 53 = .ok (.iload_n 3, 1) := by decide +kernel
theorem dL_digits_54 : decode cL_digits 54 = .ok (.bipush 15, 2) := by decide +kernel
theorem dL_digits_56 : decode cL_digits 56 = .ok (.if_icmp .ge 15, 3) := by decide +kernel
theorem dL_digits_59 : decode cL_digits 59 = .ok (.aload_n 0, 1) := by decide +kernel
theorem dL_digits_60 : decode cL_digits 60 = .ok (.ldc 126, 2) := by decide +kernel
theorem dL_digits_62 : decode cL_digits 62 = .ok (.iload_n 3, 1) := by decide +kernel
theorem dL_digits_63 : decode cL_digits 63 = .ok (.invokevirtual 70, 3) := by decide +kernel
theorem dL_digits_66 : decode cL_digits 66 = .ok (.iload_n 2, 1) := by decide +kernel
theorem dL_digits_67 : decode cL_digits 67 = .ok (.imul, 1) := by decide +kernel
theorem dL_digits_68 : decode cL_digits 68 = .ok (.goto 4, 3) := by decide +kernel
theorem dL_digits_71 : decode cL_digits 71 = .ok (.iconst 0, 1) := by decide +kernel
theorem dL_digits_72 : decode cL_digits 72 = .ok (.iadd, 1) := by decide +kernel
theorem dL_digits_73 : decode cL_digits 73 = .ok (.istore_n 1, 1) := by decide +kernel
theorem dL_digits_74 : decode cL_digits 74 = .ok (.iload_n 2, 1) := by decide +kernel
theorem dL_digits_75 : decode cL_digits 75 = .ok (.iload_n 3, 1) := by decide +kernel
theorem dL_digits_76 : decode cL_digits 76 = .ok (.bipush 14, 2) := by decide +kernel
theorem dL_digits_78 : decode cL_digits 78 = .ok (.if_icmp .ge 7, 3) := by decide +kernel
theorem dL_digits_81 : decode cL_digits 81 = .ok (.iconst 4, 1) := by decide +kernel
theorem dL_digits_82 : decode cL_digits 82 = .ok (.goto 4, 3) := by decide +kernel
theorem dL_digits_85 : decode cL_digits 85 = .ok (.iconst 1, 1) := by decide +kernel
theorem dL_digits_86 : decode cL_digits 86 = .ok (.imul, 1) := by decide +kernel
theorem dL_digits_87 : decode cL_digits 87 = .ok (.istore_n 2, 1) := by decide +kernel
theorem dL_digits_88 : decode cL_digits 88 = .ok (.iinc 3 1, 3) := by decide +kernel
theorem dL_digits_91 : decode cL_digits 91 = .ok (.goto (-85), 3) := by decide +kernel
theorem dL_digits_94 : decode cL_digits 94 = .ok (.iload_n 1, 1) := by decide +kernel
theorem dL_digits_95 : decode cL_digits 95 = .ok (.ldc 126, 2) := by decide +kernel
theorem dL_digits_97 : decode cL_digits 97 = .ok (.if_icmp .ne 118, 3) := by decide +kernel
theorem dL_digits_100 : decode cL_digits 100 = .ok (.aload_n 0, 1) := by decide +kernel
theorem dL_digits_101 : decode cL_digits 101 = .ok (.bipush 27, 2) := by decide +kernel
theorem dL_digits_103 : decode cL_digits 103 = .ok (.iconst 0, 1) := by decide +kernel
theorem dL_digits_104 : decode cL_digits 104 = .ok (.invokevirtual 70, 3) := by decide +kernel
theorem dL_digits_107 : decode cL_digits 107 = .ok (.iconst (-1), 1) := by decide +kernel
theorem dL_digits_108 : decode cL_digits 108 = .ok (.if_icmp .ne 107, 3) := by decide +kernel
theorem dL_digits_111 : decode cL_digits 111 = .ok (.aload_n 0, 1) := by decide +kernel
theorem dL_digits_112 : decode cL_digits 112 = .ok (.bipush 27, 2) := by decide +kernel
theorem dL_digits_114 : decode cL_digits 114 = .ok (.iconst 1, 1) := by decide +kernel
theorem dL_digits_115 : decode cL_digits 115 = .ok (.invokevirtual 70, 3) := by decide +kernel
theorem dL_digits_118 : decode cL_digits 118 = .ok (.iconst (-1), 1) := by decide +kernel
theorem dL_digits_119 : decode cL_digits 119 = .ok (.if_icmp .ne 96, 3) := by decide +kernel
theorem dL_digits_122 : decode cL_digits 122 = .ok (.aload_n 0, 1) := by decide +kernel
theorem dL_digits_123 : decode cL_digits 123 = .ok (.bipush 27, 2) := by decide +kernel
theorem dL_digits_125 : decode cL_digits 125 = .ok (.iconst 2, 1) := by decide +kernel
theorem dL_digits_126 : decode cL_digits 126 = .ok (.invokevirtual 70, 3) := by decide +kernel
theorem dL_digits_129 : decode cL_digits 129 = .ok (.iconst 2, 1) := by decide +kernel
theorem dL_digits_130 : decode cL_digits 130 = .ok (.if_icmp .ne 85, 3) := by decide +kernel
theorem dL_digits_133 : decode cL_digits 133 = .ok (.aload_n 0, 1) := by decide +kernel
theorem dL_digits_134 : decode cL_digits 134 = .ok (.bipush 27, 2) := by decide +kernel
theorem dL_digits_136 : decode cL_digits 136 = .ok (.iconst 3, 1) := by decide +kernel
theorem dL_digits_137 : decode cL_digits 137 = .ok (.invokevirtual 70, 3) := by decide +kernel
theorem dL_digits_140 : decode cL_digits 140 = .ok (.ifCond .ne 75, 3) := by decide +kernel
theorem dL_digits_143 : decode cL_digits 143 = .ok (.aload_n 0, 1) := by decide +kernel
theorem dL_digits_144 : decode cL_digits 144 = .ok (.iconst 2, 1) := by decide +kernel
theorem dL_digits_145 : decode cL_digits 145 = .ok (.iconst 0, 1) := by decide +kernel
theorem dL_digits_146 : decode cL_digits 146 = .ok (.invokevirtual 70, 3) := by decide +kernel
theorem dL_digits_149 : decode cL_digits 149 = .ok (.bipush (-2), 2) := by decide +kernel
theorem dL_digits_151 : decode cL_digits 151 = .ok (.if_icmp .ne 64, 3) := by decide +kernel
theorem dL_digits_154 : decode cL_digits 154 = .ok (.aload_n 0, 1) := by decide +kernel
theorem dL_digits_155 : decode cL_digits 155 = .ok (.iconst 2, 1) := by decide +kernel
theorem dL_digits_156 : decode cL_digits 156 = .ok (.iconst 1, 1) := by decide +kernel
theorem dL_digits_157 : decode cL_digits 157 = .ok (.invokevirtual 70, 3) := by decide +kernel
theorem dL_digits_160 : decode cL_digits 160 = .ok (.iconst 1, 1) := by decide +kernel
theorem dL_digits_161 : decode cL_digits 161 = .ok (.if_icmp .ne 54, 3) := by decide +kernel
theorem dL_digits_164 : decode cL_digits 164 = .ok (.aload_n 0, 1) := by decide +kernel
theorem dL_digits_165 : decode cL_digits 165 = .ok (.iconst 1, 1) := by decide +kernel
theorem dL_digits_166 : decode cL_digits 166 = .ok (.iconst 0, 1) := by decide +kernel
theorem dL_digits_167 : decode cL_digits 167 = .ok (.invokevirtual 70, 3) := by decide +kernel
theorem dL_digits_170 : decode cL_digits 170 = .ok (.iconst 1, 1) := by decide +kernel
theorem dL_digits_171 : decode cL_digits 171 = .ok (.if_icmp .ne 44, 3) := by decide +kernel
theorem dL_digits_174 : decode cL_digits 174 = .ok (.aload_n 0, 1) := by decide +kernel
theorem dL_digits_175 : decode cL_digits 175 = .ok (.ldc 85, 2) := by decide +kernel
theorem dL_digits_177 : decode cL_digits 177 = .ok (.bipush 15, 2) := by decide +kernel
theorem dL_digits_179 : decode cL_digits 179 = .ok (.invokevirtual 70, 3) := by decide +kernel
theorem dL_digits_182 : decode cL_digits 182 = .ok (.iconst 1, 1) := by decide +kernel
theorem dL_digits_183 : decode cL_digits 183 = .ok (.if_icmp .ne 32, 3) := by decide +kernel
theorem dL_digits_186 : decode cL_digits 186 = .ok (.aload_n 0, 1) := by decide +kernel
theorem dL_digits_187 : decode cL_digits 187 = .ok (.ldc 127, 2) := by decide +kernel
theorem dL_digits_189 : decode cL_digits 189 = .ok (.bipush 15, 2) := by decide +kernel
theorem dL_digits_191 : decode cL_digits 191 = .ok (.invokevirtual 70, 3) := by decide +kernel
theorem dL_digits_194 : decode cL_digits 194 = .ok (.iconst 1, 1) := by decide +kernel
theorem dL_digits_195 : decode cL_digits 195 = .ok (.if_icmp .ne 20, 3) := by decide +kernel
theorem dL_digits_198 : decode cL_digits 198 = .ok (.aload_n 0, 1) := by decide +kernel
theorem dL_digits_199 : decode cL_digits 199 = .ok (.ldc 127, 2) := by decide +kernel
theorem dL_digits_201 : decode cL_digits 201 = .ok (.bipush 14, 2) := by decide +kernel
theorem dL_digits_203 : decode cL_digits 203 = .ok (.invokevirtual 70, 3) := by decide +kernel
theorem dL_digits_206 : decode cL_digits 206 = .ok (.bipush (-2), 2) := by decide +kernel
theorem dL_digits_208 : decode cL_digits 208 = .ok (.if_icmp .ne 7, 3) := by decide +kernel
theorem dL_digits_211 : decode cL_digits 211 = .ok (.iconst 1, 1) := by decide +kernel
theorem dL_digits_212 : decode cL_digits 212 = .ok (.goto 4, 3) := by decide +kernel
theorem dL_digits_215 : decode cL_digits 215 = .ok (.iconst 0, 1) := by decide +kernel
theorem dL_digits_216 : decode cL_digits 216 = .ok (.ireturn, 1) := by decide +kernel
set_option maxRecDepth 20000 in
theorem ggL_most_X11_init : GoodIn wsL_most wsX11_init := goodIn_r _ [9, 10, 11, 12, 13, 14, 15, 16, 17, 18, 19, 20, 21, 22, 23, 24, 25, 26, 27, 28, 29, 30, 31, 32, 33, 34, 35, 36, 37, 38, 39, 40, 41, 42, 43, 44, 45, 46, 47, 48, 49, 50, 51, 52, 53, 54, 55, 56, 57, 58, 59, 60, 61, 62, 63, 64, 65, 66, 67, 68, 69, 70, 71, 72, 73, 74, 75, 76, 77, 78, 79, 80, 81, 82, 83, 84, 85, 86, 87, 88, 89, 90, 91, 92, 93, 94, 95, 96, 97, 98, 99, 100, 101, 102, 103, 104, 105, 106, 107, 108, 109, 110, 111, 112, 113, 114, 115, 116, 117, 118, 119, 120, 121, 122, 123, 124, 125, 126, 127, 128, 129, 130, 131, 132, 667, 668, 669, 670, 671, 672, 673, 674, 675, 676, 677, 678, 679, 680, 681, 682, 683, 684, 685, 686, 687, 688, 689, 690, 691, 692, 693, 694, 695, 696, 697, 698, 699, 700, 701, 702, 703, 704, 705, 706, 707, 708, 709, 710, 711, 712, 713, 714, 715, 716] (by decide +kernel) (by decide +kernel)
set_option maxRecDepth 20000 in
theorem gL_most_X11_init : GoodIn wsL_most (wsX11_init) := ggL_most_X11_init
set_option maxRecDepth 20000 in
theorem ggL_most_L_act : GoodIn wsL_most wsL_act := goodIn_ca (goodIn_ca (goodIn_ca (goodIn_r _ [136, 137, 138, 139, 140, 141, 4, 142, 143, 144, 3, 145, 146, 147, 148, 149, 150, 151, 152, 153, 14, 154, 155, 156, 54, 157, 158, 159, 160, 161, 162, 163, 164, 165, 166, 167, 168, 169, 170, 171, 123, 124, 125, 126, 172, 130, 131, 17, 132, 60, 173, 174, 175, 176, 177, 178, 179, 180, 181, 182, 183, 184, 185, 186, 187, 188, 189, 190, 191, 192, 193, 194, 195, 196, 197, 198, 199, 200, 201, 202, 203, 127, 204, 205, 206, 207, 23, 208, 209, 210, 211, 212, 213, 214, 215, 216, 217, 218, 219, 220, 221, 222, 22, 223, 224, 225, 226, 227, 228, 229, 230, 231, 232, 233, 234, 235, 236, 237, 238, 239, 240, 241, 242, 243, 244, 65, 66, 68, 245, 246, 247, 248, 249, 67, 69, 250, 251, 252, 253, 254, 255, 256, 257, 258, 259, 260, 261, 262, 263, 264, 265, 266, 267, 268, 269, 70, 71, 270, 271, 272, 273, 274, 275, 276, 277, 278, 279, 280, 281, 282, 283, 284, 285, 286, 287, 288, 289, 290, 18, 19, 291, 129, 292, 293, 294, 295, 296, 297, 298, 299, 300, 301, 302, 303, 304, 305, 306, 307, 308, 309, 35, 310, 311, 312, 34, 313, 314, 315, 316, 317, 93, 94, 318, 319, 320, 321, 322, 323, 324, 325, 326, 327, 328, 329, 330, 331, 332, 333, 334, 335, 336, 337, 338, 339, 340, 341, 92, 342, 100, 343, 344, 345, 346, 347, 348, 349, 350, 351, 352, 353, 354, 355, 356, 357, 358, 359, 360, 361, 362, 363, 364, 365, 366, 367, 368, 369, 370, 371, 372, 373, 374, 375, 27, 376, 377, 378, 379, 26, 380, 77, 78, 381, 382, 383, 384, 385, 386, 387, 388, 389, 390, 391, 392, 393, 394, 395, 396, 397, 398, 399, 400, 401, 402, 403, 404, 31, 405, 406, 407, 408, 409, 410, 411, 412, 413, 30, 414, 415, 85, 416, 417, 418, 419, 420, 421, 422, 423, 424, 425, 426, 427, 428, 429, 430, 431, 432, 433, 434, 435, 436, 437, 438, 439, 440, 79, 441, 442, 443, 444, 445, 446, 447, 448, 449, 450, 451, 452, 453, 454, 455, 456, 457, 458, 459, 460, 461, 462, 463, 464, 465, 466, 467, 468, 469, 470, 471, 472, 473, 44, 36, 40, 474, 475, 476, 477, 478, 479, 480, 481, 482, 483, 39, 484, 485, 486, 487, 488, 489, 490, 491, 492, 493, 494, 43, 495, 496, 497, 498, 499, 500, 501, 502, 503, 504, 505, 506, 507, 508, 509, 510, 108, 511, 512, 513, 514, 515, 516, 517, 518, 519, 520, 521, 522, 523, 524, 525, 526, 527, 528, 529, 530, 531, 532, 533, 534, 535, 536, 537, 538, 539, 540, 541, 542, 543, 544, 545, 546, 547, 548, 549, 550, 551, 552, 553, 554, 555, 48, 556, 557, 558, 47, 559, 114, 560, 561, 562, 563, 564, 565, 566, 567, 568, 569, 570, 571, 572, 573, 574, 575, 576, 577, 578, 579, 580, 581, 582, 583, 584, 585, 586, 587, 588, 589, 52, 590, 591, 592, 593, 594, 595, 51, 596, 597, 598, 599, 600, 601, 602, 603, 604, 605, 606, 607, 608, 609, 610, 611, 612, 613, 614, 615, 616, 617, 618, 619, 620, 621, 622, 623, 624, 625, 626, 627, 628, 629, 630, 631, 632, 633, 634, 635, 636, 637, 638, 639, 640, 641, 642, 643, 644, 645, 646, 647, 648, 649, 650, 667, 668, 669, 670, 671, 672, 673, 674, 675, 676, 677, 678, 708, 709, 710, 711, 712, 713, 714, 715, 679, 680, 681, 682, 683, 684, 685, 686, 687, 688, 689, 695, 696, 716, 690, 691, 692, 693, 694, 697, 698, 699, 700, 701, 702, 703, 704, 705, 706, 707] (by decide +kernel) (by decide +kernel)) (goodIn_sub (fun _ h => List.mem_cons_of_mem _ (List.mem_append_left _ (List.mem_append_left _ (List.mem_append_right _ h)))) (by decide +kernel))) (goodIn_sub (fun _ h => List.mem_cons_of_mem _ (List.mem_append_left _ (List.mem_append_right _ h))) (by decide +kernel))) (goodIn_sub (fun _ h => List.mem_cons_of_mem _ (List.mem_append_right _ h)) (by decide +kernel))
set_option maxRecDepth 20000 in
theorem gL_most_L_act : GoodIn wsL_most (va_wsS RL 86 yL_act wsL_act) := goodIn_app (goodIn_of _ (by decide +kernel)) ggL_most_L_act
set_option maxRecDepth 20000 in
theorem ggL_most_L_net : GoodIn wsL_most wsL_net := goodIn_ca (goodIn_ca (goodIn_r _ [653, 401, 402, 403, 3, 404, 31, 18, 27, 148, 149, 150, 151, 152, 153, 14, 208, 209, 210, 211, 212, 216, 217, 218, 54, 219, 158, 159, 160, 161, 162, 163, 195, 196, 197, 198, 199, 405, 406, 407, 408, 19, 409, 320, 321, 322, 123, 300, 255, 256, 17, 257, 60, 410, 332, 333, 334, 291, 411, 412, 413, 30, 414, 415, 85, 416, 417, 418, 419, 420, 421, 422, 336, 337, 338, 124, 423, 424, 344, 345, 346, 125, 425, 426, 130, 131, 132, 427, 428, 429, 430, 431, 432, 433, 434, 435, 436, 357, 358, 359, 127, 437, 438, 439, 26, 440, 79, 441, 381, 382, 383, 384, 390, 392, 393, 442, 443, 444, 445, 254, 446, 394, 400, 447, 448, 391, 449, 450, 451, 452, 77, 385, 386, 387, 388, 389, 667, 668, 669, 670, 671, 672, 673, 674, 675, 676, 677, 678, 708, 709, 710, 711, 712, 713, 714, 715, 679, 693, 694, 690, 691, 692] (by decide +kernel) (by decide +kernel)) (goodIn_sub (fun _ h => List.mem_cons_of_mem _ (List.mem_append_left _ (List.mem_append_right _ h))) (by decide +kernel))) (goodIn_sub (fun _ h => List.mem_cons_of_mem _ (List.mem_append_right _ h)) (by decide +kernel))
set_option maxRecDepth 20000 in
theorem gL_most_L_net : GoodIn wsL_most (va_wsS RL 97 yL_net wsL_net) := goodIn_app (goodIn_of _ (by decide +kernel)) ggL_most_L_net
set_option maxRecDepth 20000 in
theorem ggL_most_X11_ofNet : GoodIn wsL_most wsX11_ofNet := goodIn_ca (goodIn_ca (goodIn_r _ [404, 31, 18, 27, 148, 149, 150, 3, 151, 152, 153, 14, 208, 209, 210, 211, 212, 216, 217, 218, 54, 219, 158, 159, 160, 161, 162, 163, 195, 196, 197, 198, 199, 405, 406, 407, 408, 19, 409, 320, 321, 322, 123, 300, 255, 256, 17, 257, 60, 410, 332, 333, 334, 291, 411, 412, 413, 30, 414, 415, 85, 416, 417, 418, 419, 420, 421, 422, 336, 337, 338, 124, 423, 424, 344, 345, 346, 125, 425, 426, 130, 131, 132, 427, 428, 429, 430, 431, 432, 433, 434, 435, 436, 357, 358, 359, 127, 437, 438, 439, 26, 440, 79, 441, 381, 382, 383, 384, 390, 392, 393, 442, 443, 444, 445, 254, 446, 394, 400, 447, 448, 391, 449, 450, 451, 452, 77, 385, 386, 387, 388, 389, 667, 668, 669, 670, 671, 672, 673, 674, 675, 676, 677, 678, 708, 709, 710, 711, 712, 713, 714, 715, 679, 693, 694, 690, 691, 692] (by decide +kernel) (by decide +kernel)) (goodIn_sub (fun _ h => List.mem_cons_of_mem _ (List.mem_append_left _ (List.mem_append_right _ h))) (by decide +kernel))) (goodIn_sub (fun _ h => List.mem_cons_of_mem _ (List.mem_append_right _ h)) (by decide +kernel))
set_option maxRecDepth 20000 in
theorem gL_most_X11_ofNet : GoodIn wsL_most (wsV RL 46 RX11 yX11_ofNet wsX11_ofNet) := goodIn_app (goodIn_of _ (by decide +kernel)) ggL_most_X11_ofNet
set_option maxRecDepth 20000 in
theorem ggL_most_X11_path : GoodIn wsL_most wsX11_path := goodIn_ca (goodIn_r _ [464, 152, 153, 31, 18, 148, 149, 150, 3, 151, 14, 411, 412, 413, 30, 414, 415, 85, 416, 417, 418, 419, 420, 217, 218, 54, 219, 158, 421, 320, 321, 322, 123, 300, 255, 256, 17, 257, 60, 422, 336, 337, 338, 124, 423, 424, 344, 345, 346, 125, 425, 332, 333, 334, 426, 130, 131, 132, 465, 432, 433, 434, 435, 196, 197, 198, 199, 436, 357, 358, 359, 127, 466, 467, 468, 469, 667, 668, 669, 670, 671, 672, 673, 674, 675, 676, 677, 678, 693, 694, 708, 709, 710, 711, 712, 713, 714, 715, 679] (by decide +kernel) (by decide +kernel)) (goodIn_sub (fun _ h => List.mem_cons_of_mem _ (List.mem_append_left _ (List.mem_append_right _ h))) (by decide +kernel))
set_option maxRecDepth 20000 in
theorem gL_most_X11_path : GoodIn wsL_most (wsV RL 52 RX11 yX11_path wsX11_path) := goodIn_app (goodIn_of _ (by decide +kernel)) ggL_most_X11_path
set_option maxRecDepth 20000 in
theorem ggL_most_L_value : GoodIn wsL_most wsL_value := goodIn_ca (goodIn_ca (goodIn_r _ [656, 364, 365, 366, 3, 367, 309, 35, 148, 149, 150, 151, 152, 153, 14, 208, 209, 210, 211, 212, 310, 311, 312, 34, 313, 314, 315, 316, 317, 93, 94, 318, 217, 218, 54, 219, 158, 319, 320, 321, 322, 123, 300, 255, 256, 17, 257, 60, 323, 324, 325, 326, 327, 328, 329, 330, 331, 332, 333, 334, 335, 336, 337, 338, 124, 339, 340, 341, 92, 342, 100, 343, 344, 345, 346, 125, 347, 348, 349, 350, 297, 298, 299, 126, 351, 352, 353, 354, 355, 196, 197, 198, 199, 356, 357, 358, 359, 127, 368, 369, 370, 371, 372, 373, 374, 375, 27, 195, 376, 377, 378, 379, 26, 380, 77, 78, 381, 382, 383, 384, 385, 130, 131, 132, 386, 387, 388, 389, 390, 391, 392, 393, 394, 395, 396, 397, 398, 399, 400, 667, 668, 669, 670, 671, 672, 673, 674, 675, 676, 677, 678, 695, 696, 708, 709, 710, 711, 712, 713, 714, 715, 679, 716, 690, 691, 692] (by decide +kernel) (by decide +kernel)) (goodIn_sub (fun _ h => List.mem_cons_of_mem _ (List.mem_append_left _ (List.mem_append_right _ h))) (by decide +kernel))) (goodIn_sub (fun _ h => List.mem_cons_of_mem _ (List.mem_append_right _ h)) (by decide +kernel))
set_option maxRecDepth 20000 in
theorem gL_most_L_value : GoodIn wsL_most (va_wsS RL 102 yL_value wsL_value) := goodIn_app (goodIn_of _ (by decide +kernel)) ggL_most_L_value
set_option maxRecDepth 20000 in
theorem ggL_most_L_changes : GoodIn wsL_most wsL_changes := goodIn_ca (goodIn_ca (goodIn_r _ [659, 470, 471, 472, 3, 473, 44, 18, 35, 36, 31, 40, 148, 149, 150, 151, 152, 153, 14, 474, 475, 476, 309, 208, 209, 210, 211, 212, 477, 478, 479, 480, 411, 412, 413, 30, 414, 415, 85, 416, 417, 418, 419, 420, 217, 218, 54, 219, 158, 421, 320, 321, 322, 123, 300, 255, 256, 17, 257, 60, 422, 336, 337, 338, 124, 423, 424, 344, 345, 346, 125, 425, 332, 333, 334, 426, 130, 131, 132, 310, 311, 312, 34, 313, 314, 315, 316, 317, 93, 94, 318, 319, 323, 324, 325, 326, 327, 328, 329, 330, 331, 335, 339, 340, 341, 92, 342, 100, 343, 347, 348, 349, 350, 297, 298, 299, 126, 351, 352, 353, 354, 355, 196, 197, 198, 199, 356, 357, 358, 359, 127, 481, 482, 483, 39, 484, 485, 486, 487, 488, 489, 490, 491, 492, 493, 494, 43, 495, 496, 497, 498, 499, 500, 501, 502, 503, 504, 505, 506, 507, 508, 509, 510, 108, 511, 512, 513, 514, 515, 516, 517, 518, 519, 520, 521, 522, 523, 524, 525, 526, 527, 528, 529, 530, 531, 532, 533, 534, 535, 536, 537, 538, 539, 540, 541, 542, 543, 544, 545, 546, 547, 548, 549, 550, 551, 552, 553, 554, 555, 48, 556, 557, 558, 47, 559, 114, 560, 561, 361, 362, 363, 562, 563, 564, 565, 566, 567, 568, 569, 570, 571, 572, 573, 574, 575, 576, 577, 578, 579, 580, 581, 582, 583, 584, 585, 667, 668, 669, 670, 671, 672, 673, 674, 675, 676, 677, 678, 693, 694, 708, 709, 710, 711, 712, 713, 714, 715, 679, 695, 696, 716, 697, 698, 699, 700, 701, 702] (by decide +kernel) (by decide +kernel)) (goodIn_sub (fun _ h => List.mem_cons_of_mem _ (List.mem_append_left _ (List.mem_append_right _ h))) (by decide +kernel))) (goodIn_sub (fun _ h => List.mem_cons_of_mem _ (List.mem_append_right _ h)) (by decide +kernel))
set_option maxRecDepth 20000 in
theorem gL_most_L_changes : GoodIn wsL_most (va_wsS RL 108 yL_changes wsL_changes) := goodIn_app (goodIn_of _ (by decide +kernel)) ggL_most_L_changes
set_option maxRecDepth 20000 in
theorem ggL_most_L_refuses : GoodIn wsL_most wsL_refuses := goodIn_ca (goodIn_ca (goodIn_ca (goodIn_r _ [662, 663, 664, 665, 666, 140, 141, 4, 401, 402, 403, 3, 404, 31, 18, 27, 148, 149, 150, 151, 152, 153, 14, 208, 209, 210, 211, 212, 216, 217, 218, 54, 219, 158, 159, 160, 161, 162, 163, 195, 196, 197, 198, 199, 405, 406, 407, 408, 19, 409, 320, 321, 322, 123, 300, 255, 256, 17, 257, 60, 410, 332, 333, 334, 291, 411, 412, 413, 30, 414, 415, 85, 416, 417, 418, 419, 420, 421, 422, 336, 337, 338, 124, 423, 424, 344, 345, 346, 125, 425, 426, 130, 131, 132, 427, 428, 429, 430, 431, 432, 433, 434, 435, 436, 357, 358, 359, 127, 437, 438, 439, 26, 440, 79, 441, 381, 382, 383, 384, 390, 392, 393, 442, 443, 444, 445, 254, 446, 394, 400, 447, 448, 391, 449, 450, 451, 452, 77, 385, 386, 387, 388, 389, 133, 134, 135, 136, 137, 138, 139, 142, 143, 144, 145, 146, 147, 154, 155, 156, 157, 164, 165, 166, 167, 168, 169, 170, 171, 126, 172, 173, 174, 175, 176, 177, 178, 179, 180, 181, 182, 183, 184, 185, 186, 187, 188, 189, 190, 191, 192, 193, 194, 200, 201, 202, 203, 204, 205, 206, 207, 23, 213, 214, 215, 220, 221, 222, 22, 223, 224, 225, 226, 227, 228, 229, 230, 231, 232, 233, 234, 235, 236, 237, 238, 239, 240, 241, 242, 243, 244, 65, 66, 68, 245, 246, 247, 248, 249, 67, 69, 250, 251, 252, 253, 258, 259, 260, 261, 262, 263, 264, 265, 266, 267, 268, 269, 70, 71, 270, 271, 272, 273, 274, 275, 276, 277, 278, 279, 280, 281, 282, 283, 284, 285, 286, 287, 288, 289, 290, 129, 292, 293, 294, 295, 296, 297, 298, 299, 301, 302, 303, 304, 305, 306, 307, 308, 309, 35, 310, 311, 312, 34, 313, 314, 315, 316, 317, 93, 94, 318, 319, 323, 324, 325, 326, 327, 328, 329, 330, 331, 335, 339, 340, 341, 92, 342, 100, 343, 347, 348, 349, 350, 351, 352, 353, 354, 355, 356, 360, 361, 362, 363, 364, 365, 366, 367, 368, 369, 370, 371, 372, 373, 374, 375, 376, 377, 378, 379, 380, 78, 395, 396, 397, 398, 399, 453, 454, 455, 456, 457, 458, 459, 460, 461, 462, 463, 464, 465, 466, 467, 468, 469, 470, 471, 472, 473, 44, 36, 40, 474, 475, 476, 477, 478, 479, 480, 481, 482, 483, 39, 484, 485, 486, 487, 488, 489, 490, 491, 492, 493, 494, 43, 495, 496, 497, 498, 499, 500, 501, 502, 503, 504, 505, 506, 507, 508, 509, 510, 108, 511, 512, 513, 514, 515, 516, 517, 518, 519, 520, 521, 522, 523, 524, 525, 526, 527, 528, 529, 530, 531, 532, 533, 534, 535, 536, 537, 538, 539, 540, 541, 542, 543, 544, 545, 546, 547, 548, 549, 550, 551, 552, 553, 554, 555, 48, 556, 557, 558, 47, 559, 114, 560, 561, 562, 563, 564, 565, 566, 567, 568, 569, 570, 571, 572, 573, 574, 575, 576, 577, 578, 579, 580, 581, 582, 583, 584, 585, 586, 587, 588, 589, 52, 590, 591, 592, 593, 594, 595, 51, 596, 597, 598, 599, 600, 601, 602, 603, 604, 605, 606, 607, 608, 609, 610, 611, 612, 613, 614, 615, 616, 617, 618, 619, 620, 621, 622, 623, 624, 625, 626, 627, 628, 629, 630, 631, 632, 633, 634, 635, 636, 637, 638, 639, 640, 641, 642, 643, 644, 645, 646, 647, 648, 649, 650, 667, 668, 669, 670, 671, 672, 673, 674, 675, 676, 677, 678, 708, 709, 710, 711, 712, 713, 714, 715, 679, 693, 694, 690, 691, 692, 680, 681, 682, 683, 684, 685, 686, 687, 688, 689, 695, 696, 716, 697, 698, 699, 700, 701, 702, 703, 704, 705, 706, 707] (by decide +kernel) (by decide +kernel)) (goodIn_sub (fun _ h => List.mem_cons_of_mem _ (List.mem_append_left _ (List.mem_append_right _ h))) (by decide +kernel))) (goodIn_sub (fun _ h => List.mem_cons_of_mem _ (List.mem_append_right _ h)) (by decide +kernel))) (goodIn_sub (fun _ h => List.mem_cons_of_mem _ (List.mem_append_left _ (List.mem_append_left _ (List.mem_append_right _ h)))) (by decide +kernel))
set_option maxRecDepth 20000 in
theorem gL_most_L_refuses : GoodIn wsL_most (va_wsS RL 93 yL_refuses wsL_refuses) := goodIn_app (goodIn_of _ (by decide +kernel)) ggL_most_L_refuses
theorem dL_most_0 : decode cL_most 0 = .ok (.new 8, 3) := by decide +kernel
theorem dL_most_3 : decode cL_most 3 = .ok (.dup, 1) := by decide +kernel
theorem dL_most_4 : decode cL_most 4 = .ok (.invokespecial 92, 3) := by decide +kernel
theorem dL_most_7 : decode cL_most 7 = .ok (.astore_n 0, 1) := by decide +kernel
theorem dL_most_8 : decode cL_most 8 = .ok (.iconst 0, 1) := by decide +kernel
theorem dL_most_9 : decode cL_most 9 = .ok (.istore_n 1, 1) := by decide +kernel
theorem dL_most_10 : decode cL_most 10 = .ok (.iload_n 1, 1) := by decide +kernel
theorem dL_most_11 : decode cL_most 11 = .ok (.bipush 31, 2) := by decide +kernel
theorem dL_most_13 : decode cL_most 13 = .ok (.if_icmp .ge 35, 3) := by decide +kernel
theorem dL_most_16 : decode cL_most 16 = .ok (.aload_n 0, 1) := by decide +kernel
theorem dL_most_17 : decode cL_most 17 = .ok (.iconst 0, 1) := by decide +kernel
theorem dL_most_18 : decode cL_most 18 = .ok (.iconst 1, 1) := by decide +kernel
theorem dL_most_19 : decode cL_most 19 = .ok (.iconst 0, 1) := by decide +kernel
theorem dL_most_20 : decode cL_most 20 = .ok (.iconst 0, 1) := by decide +kernel
theorem dL_most_21 : decode cL_most 21 = .ok (.iconst 0, 1) := by decide +kernel
theorem dL_most_22 : decode cL_most 22 = .ok (.invokestatic 86, 3) := by decide +kernel
theorem dL_most_25 : decode cL_most 25 = .ok (.iload_n 1, 1) := by decide +kernel
theorem dL_most_26 : decode cL_most 26 = .ok (.bipush 30, 2) := by decide +kernel
theorem dL_most_28 : decode cL_most 28 = .ok (.if_icmp .ge 7, 3) := by decide +kernel
theorem dL_most_31 : decode cL_most 31 = .ok (.iload_n 1, 1) := by decide +kernel
theorem dL_most_32 : decode cL_most 32 = .ok (.goto 5, 3) := by decide +kernel
theorem dL_most_35 : decode cL_most 35 = .ok (.ldc 81, 2) := by decide +kernel
theorem dL_most_37 : decode cL_most 37 = .ok (.if_icmp .eq 5, 3) := by decide +kernel
theorem dL_most_40 : decode cL_most 40 = .ok (.iconst 0, 1) := by decide +kernel
theorem dL_most_41 : decode cL_most 41 = .ok (.ireturn, 1) := by decide +kernel
theorem dL_most_42 : decode cL_most 42 = .ok (.iinc 1 1, 3) := by decide +kernel
theorem dL_most_45 : decode cL_most 45 = .ok (.goto (-35), 3) := by decide +kernel
theorem dL_most_48 : decode cL_most 48 = .ok (.bipush 30, 2) := by decide +kernel
theorem dL_most_50 : decode cL_most 50 = .ok (.istore_n 1, 1) := by decide +kernel
theorem dL_most_51 : decode cL_most 51 = .ok (.iload_n 1, 1) := by decide +kernel
theorem dL_most_52 : decode cL_most 52 = .ok (.bipush 121, 2) := by decide +kernel
theorem dL_most_54 : decode cL_most 54 = .ok (.if_icmp .ge 58, 3) := by decide +kernel
theorem dL_most_57 : decode cL_most 57 = .ok (.aload_n 0, 1) := by decide +kernel
theorem dL_most_58 : decode cL_most 58 = .ok (.iconst 1, 1) := by decide +kernel
theorem dL_most_59 : decode cL_most 59 = .ok (.iconst 1, 1) := by decide +kernel
theorem dL_most_60 : decode cL_most 60 = .ok (.iload_n 1, 1) := by decide +kernel
theorem dL_most_61 : decode cL_most 61 = .ok (.bipush 30, 2) := by decide +kernel
theorem dL_most_63 : decode cL_most 63 = .ok (.if_icmp .ne 7, 3) := by decide +kernel
theorem dL_most_66 : decode cL_most 66 = .ok (.iconst 1, 1) := by decide +kernel
theorem dL_most_67 : decode cL_most 67 = .ok (.goto 4, 3) := by decide +kernel
theorem dL_most_70 : decode cL_most 70 = .ok (.iconst 3, 1) := by decide +kernel
theorem dL_most_71 : decode cL_most 71 = .ok (.iload_n 1, 1) := by decide +kernel
theorem dL_most_72 : decode cL_most 72 = .ok (.bipush 30, 2) := by decide +kernel
theorem dL_most_74 : decode cL_most 74 = .ok (.if_icmp .ne 7, 3) := by decide +kernel
theorem dL_most_77 : decode cL_most 77 = .ok (.iconst 0, 1) := by decide +kernel
theorem dL_most_78 : decode cL_most 78 = .ok (.goto 6, 3) := by decide +kernel
theorem dL_most_81 : decode cL_most 81 = .ok (.iload_n 1, 1) := by decide +kernel
theorem dL_most_82 : decode cL_most 82 = .ok (.iconst 1, 1) := by decide +kernel
theorem dL_most_83 : decode cL_most 83 = .ok (.isub, 1) := by decide +kernel
theorem dL_most_84 : decode cL_most 84 = .ok (.bipush 29, 2) := by decide +kernel
theorem dL_most_86 : decode cL_most 86 = .ok (.invokestatic 86, 3) := by decide +kernel
theorem dL_most_89 : decode cL_most 89 = .ok (.iload_n 1, 1) := by decide +kernel
theorem dL_most_90 : decode cL_most 90 = .ok (.bipush 120, 2) := by decide +kernel
theorem dL_most_92 : decode cL_most 92 = .ok (.if_icmp .ge 7, 3) := by decide +kernel
theorem dL_most_95 : decode cL_most 95 = .ok (.iload_n 1, 1) := by decide +kernel
theorem dL_most_96 : decode cL_most 96 = .ok (.goto 5, 3) := by decide +kernel
theorem dL_most_99 : decode cL_most 99 = .ok (.ldc 81, 2) := by decide +kernel
theorem dL_most_101 : decode cL_most 101 = .ok (.if_icmp .eq 5, 3) := by decide +kernel
theorem dL_most_104 : decode cL_most 104 = .ok (.iconst 0, 1) := by decide +kernel
theorem dL_most_105 : decode cL_most 105 = .ok (.ireturn, 1) := by decide +kernel
theorem dL_most_106 : decode cL_most 106 = .ok (.iinc 1 1, 3) := by decide +kernel
theorem dL_most_109 : decode cL_most 109 = .ok (.goto (-58), 3) := by decide +kernel
theorem dL_most_112 : decode cL_most 112 = .ok (.iconst 0, 1) := by decide +kernel
theorem dL_most_113 : decode cL_most 113 = .ok (.istore_n 1, 1) := by decide +kernel
theorem dL_most_114 : decode cL_most 114 = .ok (.iload_n 1, 1) := by decide +kernel
theorem dL_most_115 : decode cL_most 115 = .ok (.bipush 17, 2) := by decide +kernel

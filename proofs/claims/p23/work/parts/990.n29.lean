set_option maxRecDepth 20000 in
theorem ggL_glitch_X11_clear : GoodIn wsL_glitch wsX11_clear := goodIn_ca (goodIn_r _ [481, 9, 10, 11, 5, 12, 13, 14, 15, 89, 90, 91, 19, 92, 21, 482, 483, 484, 485, 26, 71, 583, 584, 585, 586, 587, 588, 589, 590, 591, 592, 593, 594, 595, 596, 597, 598, 599, 600, 601, 602] (by decide +kernel) (by decide +kernel)) (goodIn_sub (fun _ h => List.mem_cons_of_mem _ (List.mem_append_left _ (List.mem_append_right _ h))) (by decide +kernel))
set_option maxRecDepth 20000 in
theorem gL_glitch_X11_clear : GoodIn wsL_glitch (wsV RL 28 RX11 yX11_clear wsX11_clear) := goodIn_app (goodIn_of _ (by decide +kernel)) ggL_glitch_X11_clear

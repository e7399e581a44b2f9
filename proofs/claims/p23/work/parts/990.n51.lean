set_option maxRecDepth 20000 in
theorem gL_glitch_X11_input : GoodIn wsL_glitch (wsV RL 7 RX11 yX11_input wsX11_input) := goodIn_app (goodIn_of _ (by decide +kernel)) ggL_glitch_X11_input
set_option maxRecDepth 20000 in
theorem gL_glitch_X11_gate : GoodIn wsL_glitch (wsV RL 13 RX11 yX11_gate wsX11_gate) := goodIn_app (goodIn_of _ (by decide +kernel)) ggL_glitch_X11_gate
set_option maxRecDepth 20000 in
theorem gL_glitch_X11_out : GoodIn wsL_glitch (wsV RL 17 RX11 yX11_out wsX11_out) := goodIn_app (goodIn_of _ (by decide +kernel)) ggL_glitch_X11_out
set_option maxRecDepth 20000 in
theorem gL_glitch_X11_ofNet : GoodIn wsL_glitch (wsV RL 46 RX11 yX11_ofNet wsX11_ofNet) := goodIn_app (goodIn_of _ (by decide +kernel)) ggL_glitch_X11_ofNet
set_option maxRecDepth 20000 in
theorem gL_glitch_L_value : GoodIn wsL_glitch (va_wsS RL 102 yL_value wsL_value) := goodIn_app (goodIn_of _ (by decide +kernel)) ggL_glitch_L_value
set_option maxRecDepth 20000 in
theorem gL_glitch_L_changes : GoodIn wsL_glitch (va_wsS RL 108 yL_changes wsL_changes) := goodIn_app (goodIn_of _ (by decide +kernel)) ggL_glitch_L_changes
set_option maxRecDepth 20000 in
theorem gL_glitch_L_path : GoodIn wsL_glitch (va_wsS RL 105 yL_path wsL_path) := goodIn_app (goodIn_of _ (by decide +kernel)) ggL_glitch_L_path
set_option maxRecDepth 20000 in
theorem gL_glitch_L_act : GoodIn wsL_glitch (va_wsS RL 86 yL_act wsL_act) := goodIn_app (goodIn_of _ (by decide +kernel)) ggL_glitch_L_act
set_option maxRecDepth 20000 in
theorem gL_glitch_X11_unlike : GoodIn wsL_glitch (wsV RL 67 RX11 yX11_unlike wsX11_unlike) := goodIn_app (goodIn_of _ (by decide +kernel)) ggL_glitch_X11_unlike
set_option maxRecDepth 20000 in
theorem gL_glitch_X11_cost : GoodIn wsL_glitch (wsV RL 31 RX11 yX11_cost wsX11_cost) := goodIn_app (goodIn_of _ (by decide +kernel)) ggL_glitch_X11_cost
set_option maxRecDepth 20000 in
theorem gL_glitch_L_net : GoodIn wsL_glitch (va_wsS RL 97 yL_net wsL_net) := goodIn_app (goodIn_of _ (by decide +kernel)) ggL_glitch_L_net
set_option maxRecDepth 20000 in
theorem gL_glitch_X11_time : GoodIn wsL_glitch (wsV RL 49 RX11 yX11_time wsX11_time) := goodIn_app (goodIn_of _ (by decide +kernel)) ggL_glitch_X11_time
set_option maxRecDepth 20000 in
theorem gL_glitch_X11_stick : GoodIn wsL_glitch (wsV RL 34 RX11 yX11_stick wsX11_stick) := goodIn_app (goodIn_of _ (by decide +kernel)) ggL_glitch_X11_stick
set_option maxRecDepth 20000 in
theorem gL_glitch_X11_bit : GoodIn wsL_glitch (wsV RL 37 RX11 yX11_bit wsX11_bit) := goodIn_app (goodIn_of _ (by decide +kernel)) ggL_glitch_X11_bit

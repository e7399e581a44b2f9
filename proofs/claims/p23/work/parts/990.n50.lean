set_option maxRecDepth 20000 in
theorem gL_multipliers_X11_clear : GoodIn wsL_multipliers (wsV RL 28 RX11 yX11_clear wsX11_clear) := goodIn_app (goodIn_of _ (by decide +kernel)) ggL_multipliers_X11_clear
set_option maxRecDepth 20000 in
theorem gL_multipliers_X11_multiplier : GoodIn wsL_multipliers (wsV RL 25 RX11 yX11_multiplier wsX11_multiplier) := goodIn_app (goodIn_of _ (by decide +kernel)) ggL_multipliers_X11_multiplier
set_option maxRecDepth 20000 in
theorem gL_multipliers_L_net : GoodIn wsL_multipliers (va_wsS RL 97 yL_net wsL_net) := goodIn_app (goodIn_of _ (by decide +kernel)) ggL_multipliers_L_net
set_option maxRecDepth 20000 in
theorem gL_multipliers_X11_ofNet : GoodIn wsL_multipliers (wsV RL 46 RX11 yX11_ofNet wsX11_ofNet) := goodIn_app (goodIn_of _ (by decide +kernel)) ggL_multipliers_X11_ofNet
set_option maxRecDepth 20000 in
theorem gL_multipliers_L_value : GoodIn wsL_multipliers (va_wsS RL 102 yL_value wsL_value) := goodIn_app (goodIn_of _ (by decide +kernel)) ggL_multipliers_L_value
set_option maxRecDepth 20000 in
theorem gL_multipliers_L_path : GoodIn wsL_multipliers (va_wsS RL 105 yL_path wsL_path) := goodIn_app (goodIn_of _ (by decide +kernel)) ggL_multipliers_L_path
set_option maxRecDepth 20000 in
theorem gL_multipliers_X11_time : GoodIn wsL_multipliers (wsV RL 49 RX11 yX11_time wsX11_time) := goodIn_app (goodIn_of _ (by decide +kernel)) ggL_multipliers_X11_time
set_option maxRecDepth 20000 in
theorem gL_multipliers_L_off : GoodIn wsL_multipliers (va_wsS RL 111 yL_off wsL_off) := goodIn_app (goodIn_of _ (by decide +kernel)) ggL_multipliers_L_off
set_option maxRecDepth 20000 in
theorem gL_multipliers_X11_unlike : GoodIn wsL_multipliers (wsV RL 67 RX11 yX11_unlike wsX11_unlike) := goodIn_app (goodIn_of _ (by decide +kernel)) ggL_multipliers_X11_unlike
set_option maxRecDepth 20000 in
theorem gL_multipliers_X11_unseen : GoodIn wsL_multipliers (wsV RL 64 RX11 yX11_unseen wsX11_unseen) := goodIn_app (goodIn_of _ (by decide +kernel)) ggL_multipliers_X11_unseen

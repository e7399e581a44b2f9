set_option maxRecDepth 20000 in
theorem gL_most_X11_init : GoodIn wsL_most (wsX11_init) := ggL_most_X11_init
set_option maxRecDepth 20000 in
theorem gL_most_L_act : GoodIn wsL_most (va_wsS RL 86 yL_act wsL_act) := goodIn_app (goodIn_of _ (by decide +kernel)) ggL_most_L_act
set_option maxRecDepth 20000 in
theorem gL_most_L_net : GoodIn wsL_most (va_wsS RL 97 yL_net wsL_net) := goodIn_app (goodIn_of _ (by decide +kernel)) ggL_most_L_net
set_option maxRecDepth 20000 in
theorem gL_most_X11_ofNet : GoodIn wsL_most (wsV RL 46 RX11 yX11_ofNet wsX11_ofNet) := goodIn_app (goodIn_of _ (by decide +kernel)) ggL_most_X11_ofNet
set_option maxRecDepth 20000 in
theorem gL_most_X11_path : GoodIn wsL_most (wsV RL 52 RX11 yX11_path wsX11_path) := goodIn_app (goodIn_of _ (by decide +kernel)) ggL_most_X11_path
set_option maxRecDepth 20000 in
theorem gL_most_L_value : GoodIn wsL_most (va_wsS RL 102 yL_value wsL_value) := goodIn_app (goodIn_of _ (by decide +kernel)) ggL_most_L_value
set_option maxRecDepth 20000 in
theorem gL_most_L_changes : GoodIn wsL_most (va_wsS RL 108 yL_changes wsL_changes) := goodIn_app (goodIn_of _ (by decide +kernel)) ggL_most_L_changes
set_option maxRecDepth 20000 in
theorem gL_most_L_refuses : GoodIn wsL_most (va_wsS RL 93 yL_refuses wsL_refuses) := goodIn_app (goodIn_of _ (by decide +kernel)) ggL_most_L_refuses

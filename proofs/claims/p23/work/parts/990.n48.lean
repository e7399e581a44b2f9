set_option maxRecDepth 20000 in
theorem gL_adders_X11_init : GoodIn wsL_adders (wsX11_init) := ggL_adders_X11_init
set_option maxRecDepth 20000 in
theorem gL_adders_L_refuses : GoodIn wsL_adders (va_wsS RL 93 yL_refuses wsL_refuses) := goodIn_app (goodIn_of _ (by decide +kernel)) ggL_adders_L_refuses
set_option maxRecDepth 20000 in
theorem gL_adders_L_net : GoodIn wsL_adders (va_wsS RL 97 yL_net wsL_net) := goodIn_app (goodIn_of _ (by decide +kernel)) ggL_adders_L_net
set_option maxRecDepth 20000 in
theorem gL_adders_X11_ofNet : GoodIn wsL_adders (wsV RL 46 RX11 yX11_ofNet wsX11_ofNet) := goodIn_app (goodIn_of _ (by decide +kernel)) ggL_adders_X11_ofNet
set_option maxRecDepth 20000 in
theorem gL_adders_L_value : GoodIn wsL_adders (va_wsS RL 102 yL_value wsL_value) := goodIn_app (goodIn_of _ (by decide +kernel)) ggL_adders_L_value
set_option maxRecDepth 20000 in
theorem gL_adders_L_path : GoodIn wsL_adders (va_wsS RL 105 yL_path wsL_path) := goodIn_app (goodIn_of _ (by decide +kernel)) ggL_adders_L_path
set_option maxRecDepth 20000 in
theorem gL_adders_L_changes : GoodIn wsL_adders (va_wsS RL 108 yL_changes wsL_changes) := goodIn_app (goodIn_of _ (by decide +kernel)) ggL_adders_L_changes
set_option maxRecDepth 20000 in
theorem gL_adders_X11_unlike : GoodIn wsL_adders (wsV RL 67 RX11 yX11_unlike wsX11_unlike) := goodIn_app (goodIn_of _ (by decide +kernel)) ggL_adders_X11_unlike
set_option maxRecDepth 20000 in
theorem gL_adders_L_act : GoodIn wsL_adders (va_wsS RL 86 yL_act wsL_act) := goodIn_app (goodIn_of _ (by decide +kernel)) ggL_adders_L_act
set_option maxRecDepth 20000 in
theorem gL_adders_X11_adder : GoodIn wsL_adders (wsV RL 21 RX11 yX11_adder wsX11_adder) := goodIn_app (goodIn_of _ (by decide +kernel)) ggL_adders_X11_adder
set_option maxRecDepth 20000 in
theorem gL_adders_X11_time : GoodIn wsL_adders (wsV RL 49 RX11 yX11_time wsX11_time) := goodIn_app (goodIn_of _ (by decide +kernel)) ggL_adders_X11_time
set_option maxRecDepth 20000 in
theorem gL_adders_X11_bit : GoodIn wsL_adders (wsV RL 37 RX11 yX11_bit wsX11_bit) := goodIn_app (goodIn_of _ (by decide +kernel)) ggL_adders_X11_bit
set_option maxRecDepth 20000 in
theorem gL_adders_L_off : GoodIn wsL_adders (va_wsS RL 111 yL_off wsL_off) := goodIn_app (goodIn_of _ (by decide +kernel)) ggL_adders_L_off
set_option maxRecDepth 20000 in
theorem gL_adders_X11_unseen : GoodIn wsL_adders (wsV RL 64 RX11 yX11_unseen wsX11_unseen) := goodIn_app (goodIn_of _ (by decide +kernel)) ggL_adders_X11_unseen

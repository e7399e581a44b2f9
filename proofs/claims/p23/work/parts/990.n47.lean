set_option maxRecDepth 20000 in
theorem gL_value_X11_value : GoodIn wsL_value (wsV RL 40 RX11 yX11_value wsX11_value) := goodIn_app (goodIn_of _ (by decide +kernel)) ggL_value_X11_value
set_option maxRecDepth 20000 in
theorem gL_value_X11_valueAnew : GoodIn wsL_value (wsV RL 43 RX11 yX11_valueAnew wsX11_valueAnew) := goodIn_app (goodIn_of _ (by decide +kernel)) ggL_value_X11_valueAnew

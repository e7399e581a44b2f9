set_option maxRecDepth 20000 in
theorem gL_off_X11_off : GoodIn wsL_off (wsV RL 61 RX11 yX11_off wsX11_off) := goodIn_app (goodIn_of _ (by decide +kernel)) ggL_off_X11_off

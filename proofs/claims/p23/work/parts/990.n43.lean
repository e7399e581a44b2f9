set_option maxRecDepth 20000 in
theorem gL_net_X11_ofNet : GoodIn wsL_net (wsV RL 46 RX11 yX11_ofNet wsX11_ofNet) := goodIn_app (goodIn_of _ (by decide +kernel)) ggL_net_X11_ofNet

set_option maxRecDepth 20000 in
theorem gL_glitch_X11_clear : GoodIn wsL_glitch (wsV RL 28 RX11 yX11_clear wsX11_clear) := goodIn_app (goodIn_of _ (by decide +kernel)) ggL_glitch_X11_clear

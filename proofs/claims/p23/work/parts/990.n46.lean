set_option maxRecDepth 20000 in
theorem gL_path_X11_path : GoodIn wsL_path (wsV RL 52 RX11 yX11_path wsX11_path) := goodIn_app (goodIn_of _ (by decide +kernel)) ggL_path_X11_path

set_option maxRecDepth 20000 in
theorem gL_digits_X11_digit : GoodIn wsL_digits (wsV RL 70 RX11 yX11_digit wsX11_digit) := goodIn_app (goodIn_of _ (by decide +kernel)) ggL_digits_X11_digit

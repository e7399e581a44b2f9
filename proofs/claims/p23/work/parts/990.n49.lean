set_option maxRecDepth 20000 in
theorem gL_adders_X11_stick : GoodIn wsL_adders (wsV RL 34 RX11 yX11_stick wsX11_stick) := goodIn_app (goodIn_of _ (by decide +kernel)) ggL_adders_X11_stick
set_option maxRecDepth 20000 in
theorem gL_adders_X11_clear : GoodIn wsL_adders (wsV RL 28 RX11 yX11_clear wsX11_clear) := goodIn_app (goodIn_of _ (by decide +kernel)) ggL_adders_X11_clear
set_option maxRecDepth 20000 in
theorem gL_adders_L_multipliers : GoodIn wsL_adders (va_wsS RL 113 yL_multipliers wsL_multipliers) := goodIn_app (goodIn_of _ (by decide +kernel)) ggL_adders_L_multipliers
set_option maxRecDepth 20000 in
theorem gL_adders_L_glitch : GoodIn wsL_adders (va_wsS RL 116 yL_glitch wsL_glitch) := goodIn_app (goodIn_of _ (by decide +kernel)) ggL_adders_L_glitch
set_option maxRecDepth 20000 in
theorem gL_adders_L_digits : GoodIn wsL_adders (va_wsS RL 119 yL_digits wsL_digits) := goodIn_app (goodIn_of _ (by decide +kernel)) ggL_adders_L_digits
set_option maxRecDepth 20000 in
theorem gL_adders_L_most : GoodIn wsL_adders (va_wsS RL 122 yL_most wsL_most) := goodIn_app (goodIn_of _ (by decide +kernel)) ggL_adders_L_most

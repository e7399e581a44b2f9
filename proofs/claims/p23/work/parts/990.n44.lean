set_option maxRecDepth 20000 in
theorem gL_changes_X11_changes : GoodIn wsL_changes (wsV RL 55 RX11 yX11_changes wsX11_changes) := goodIn_app (goodIn_of _ (by decide +kernel)) ggL_changes_X11_changes
set_option maxRecDepth 20000 in
theorem gL_changes_X11_changesAnew : GoodIn wsL_changes (wsV RL 58 RX11 yX11_changesAnew wsX11_changesAnew) := goodIn_app (goodIn_of _ (by decide +kernel)) ggL_changes_X11_changesAnew

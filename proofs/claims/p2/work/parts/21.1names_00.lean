set_option maxRecDepth 20000 in
theorem ggX11_nearest_X11_hasSnow : GoodIn wsX11_nearest wsX11_hasSnow := goodIn_r _ [23, 24, 25, 26, 7, 27, 2, 28, 29, 30, 31, 32, 33, 34, 35, 36, 37, 38, 39, 40, 41, 42, 43, 44, 45, 46, 47, 48, 49, 50, 51, 52, 53, 54, 55, 56, 57, 58, 59, 60, 61, 62, 63, 64, 65, 66, 67, 68, 69] (by decide +kernel) (by decide +kernel)
set_option maxRecDepth 20000 in
theorem gX11_nearest_X11_hasSnow : GoodIn wsX11_nearest (wsV RX11 294 RX11 yX11_hasSnow wsX11_hasSnow) := goodIn_app (goodIn_of _ (by decide +kernel)) ggX11_nearest_X11_hasSnow
set_option maxRecDepth 20000 in
theorem ggX11_nearest_X11_in : GoodIn wsX11_nearest wsX11_in := goodIn_r _ [11] (by decide +kernel) (by decide +kernel)
set_option maxRecDepth 20000 in
theorem gX11_nearest_X11_in : GoodIn wsX11_nearest (va_wsS RX11 118 yX11_in wsX11_in) := goodIn_app (goodIn_of _ (by decide +kernel)) ggX11_nearest_X11_in
set_option maxRecDepth 20000 in
theorem ggX11_nearest_X11_isNode : GoodIn wsX11_nearest wsX11_isNode := goodIn_r _ [8, 2, 28, 29, 30, 31, 32, 33, 34, 35, 36, 37, 38, 39, 40, 41, 42, 43, 44, 45, 46, 47, 48, 49, 50, 51, 52, 53, 54, 55, 56, 57, 58, 59, 60, 61, 62, 63, 64, 65, 66, 67, 68, 69] (by decide +kernel) (by decide +kernel)
set_option maxRecDepth 20000 in
theorem gX11_nearest_X11_isNode : GoodIn wsX11_nearest (wsV RX11 267 RX11 yX11_isNode wsX11_isNode) := goodIn_app (goodIn_of _ (by decide +kernel)) ggX11_nearest_X11_isNode
set_option maxRecDepth 20000 in
theorem ggX11_nearest_X11_spreads : GoodIn wsX11_nearest wsX11_spreads := goodIn_r _ [15, 3, 2, 16, 17, 18, 7, 19, 28, 29, 30, 31, 32, 33, 34, 35, 36, 37, 38, 39, 40, 41, 42, 43, 44, 45, 46, 47, 48, 49, 50, 51, 52, 53, 54, 55, 56, 57, 58, 59, 60, 61, 62, 63, 64, 65, 66, 67, 68, 69] (by decide +kernel) (by decide +kernel)
set_option maxRecDepth 20000 in
theorem gX11_nearest_X11_spreads : GoodIn wsX11_nearest (wsV RX11 434 RX11 yX11_spreads wsX11_spreads) := goodIn_app (goodIn_of _ (by decide +kernel)) ggX11_nearest_X11_spreads
set_option maxRecDepth 20000 in
theorem ggX11_soonest_X11_isNode : GoodIn wsX11_soonest wsX11_isNode := goodIn_r _ [6, 7, 16, 17, 18, 19, 20, 21, 22, 23, 24, 25, 26, 27, 28, 29, 30, 31, 32, 33, 34, 35, 36, 37, 38, 39, 40, 41, 42, 43, 44, 45, 46, 47, 48, 49, 50, 51, 52, 53, 54, 55, 56, 57] (by decide +kernel) (by decide +kernel)
set_option maxRecDepth 20000 in
theorem gX11_soonest_X11_isNode : GoodIn wsX11_soonest (wsV RX11 267 RX11 yX11_isNode wsX11_isNode) := goodIn_app (goodIn_of _ (by decide +kernel)) ggX11_soonest_X11_isNode
set_option maxRecDepth 20000 in
theorem ggX11_soonest_X11_spreads : GoodIn wsX11_soonest wsX11_spreads := goodIn_r _ [11, 1, 7, 12, 13, 14, 5, 15, 16, 17, 18, 19, 20, 21, 22, 23, 24, 25, 26, 27, 28, 29, 30, 31, 32, 33, 34, 35, 36, 37, 38, 39, 40, 41, 42, 43, 44, 45, 46, 47, 48, 49, 50, 51, 52, 53, 54, 55, 56, 57] (by decide +kernel) (by decide +kernel)
set_option maxRecDepth 20000 in
theorem gX11_soonest_X11_spreads : GoodIn wsX11_soonest (wsV RX11 434 RX11 yX11_spreads wsX11_spreads) := goodIn_app (goodIn_of _ (by decide +kernel)) ggX11_soonest_X11_spreads
set_option maxRecDepth 20000 in
theorem ggX11_spreads_X11_passOf : GoodIn wsX11_spreads wsX11_passOf := goodIn_r _ [7, 2, 8, 9, 10, 11, 12, 13, 14, 15, 16, 17, 18, 19, 20, 21, 22, 23, 24, 25, 26, 27, 28, 29, 30, 31, 32, 33, 34, 35, 36, 37, 38, 39, 40, 41, 42, 43, 44, 45, 46, 47, 48, 49] (by decide +kernel) (by decide +kernel)
set_option maxRecDepth 20000 in
theorem gX11_spreads_X11_passOf : GoodIn wsX11_spreads (wsV RX11 303 RX11 yX11_passOf wsX11_passOf) := goodIn_app (goodIn_of _ (by decide +kernel)) ggX11_spreads_X11_passOf

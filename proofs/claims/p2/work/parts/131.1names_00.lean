set_option maxRecDepth 20000 in
theorem ggX11_lay_X11_isOfWay : GoodIn wsX11_lay wsX11_isOfWay := goodIn_r _ [22, 1, 11, 12, 13, 5, 14, 15, 16, 17, 18, 23, 24, 25, 26, 27, 28, 29, 30, 31, 32, 33, 34, 35, 36, 37, 38, 39, 40, 41, 42, 43, 44, 45, 46, 47, 48, 49, 50, 51, 52, 53, 54, 55, 56, 57, 58, 59, 60, 61, 62, 63, 64] (by decide +kernel) (by decide +kernel)
set_option maxRecDepth 20000 in
theorem gX11_lay_X11_isOfWay : GoodIn wsX11_lay (wsV RX11 378 RX11 yX11_isOfWay wsX11_isOfWay) := goodIn_app (goodIn_of _ (by decide +kernel)) ggX11_lay_X11_isOfWay
set_option maxRecDepth 20000 in
theorem ggX11_lay_X11_isPass : GoodIn wsX11_lay wsX11_isPass := goodIn_r _ [6, 1, 23, 24, 25, 26, 27, 28, 29, 30, 31, 32, 33, 34, 35, 36, 37, 38, 39, 40, 41, 42, 43, 44, 45, 46, 47, 48, 49, 50, 51, 52, 53, 54, 55, 56, 57, 58, 59, 60, 61, 62, 63, 64] (by decide +kernel) (by decide +kernel)
set_option maxRecDepth 20000 in
theorem gX11_lay_X11_isPass : GoodIn wsX11_lay (wsV RX11 306 RX11 yX11_isPass wsX11_isPass) := goodIn_app (goodIn_of _ (by decide +kernel)) ggX11_lay_X11_isPass
set_option maxRecDepth 20000 in
theorem ggX11_lay_X11_other : GoodIn wsX11_lay wsX11_other := goodIn_r _ [14, 15, 16, 17, 5, 18, 1, 23, 24, 25, 26, 27, 28, 29, 30, 31, 32, 33, 34, 35, 36, 37, 38, 39, 40, 41, 42, 43, 44, 45, 46, 47, 48, 49, 50, 51, 52, 53, 54, 55, 56, 57, 58, 59, 60, 61, 62, 63, 64] (by decide +kernel) (by decide +kernel)
set_option maxRecDepth 20000 in
theorem gX11_lay_X11_other : GoodIn wsX11_lay (wsV RX11 309 RX11 yX11_other wsX11_other) := goodIn_app (goodIn_of _ (by decide +kernel)) ggX11_lay_X11_other
set_option maxRecDepth 20000 in
theorem ggX11_lay_X11_wayEnd : GoodIn wsX11_lay wsX11_wayEnd := goodIn_r _ [10, 1, 11, 12, 13, 5, 14, 15, 16, 17, 18, 23, 24, 25, 26, 27, 28, 29, 30, 31, 32, 33, 34, 35, 36, 37, 38, 39, 40, 41, 42, 43, 44, 45, 46, 47, 48, 49, 50, 51, 52, 53, 54, 55, 56, 57, 58, 59, 60, 61, 62, 63, 64] (by decide +kernel) (by decide +kernel)
set_option maxRecDepth 20000 in
theorem gX11_lay_X11_wayEnd : GoodIn wsX11_lay (wsV RX11 375 RX11 yX11_wayEnd wsX11_wayEnd) := goodIn_app (goodIn_of _ (by decide +kernel)) ggX11_lay_X11_wayEnd

set_option maxRecDepth 20000 in
theorem ggX11_closes_X11_isInside : GoodIn wsX11_closes wsX11_isInside := goodIn_r _ [29, 1, 9, 30, 31, 32, 33, 34, 35, 36, 37, 38, 39, 40, 41, 42, 43, 44, 45, 46, 47, 48, 49, 50, 51, 52, 53, 54, 55, 56, 57, 58, 59, 60, 61, 62, 63, 64, 65, 66, 67, 68, 69, 70, 71] (by decide +kernel) (by decide +kernel)
set_option maxRecDepth 20000 in
theorem gX11_closes_X11_isInside : GoodIn wsX11_closes (wsV RX11 195 RX11 yX11_isInside wsX11_isInside) := goodIn_app (goodIn_of _ (by decide +kernel)) ggX11_closes_X11_isInside
set_option maxRecDepth 20000 in
theorem ggX11_closes_X11_see : GoodIn wsX11_closes wsX11_see := goodIn_r _ [23, 3, 24, 25, 30, 31, 32, 33, 34, 35, 36, 37, 38, 39, 40, 41, 42, 43, 44, 45, 46, 47, 48, 49, 50, 51, 52, 53, 54, 55, 56, 57, 58, 59, 60, 61, 62, 63, 64, 65, 66, 67, 68, 69, 70, 71] (by decide +kernel) (by decide +kernel)
set_option maxRecDepth 20000 in
theorem gX11_closes_X11_see : GoodIn wsX11_closes (wsV RX11 93 RX11 yX11_see wsX11_see) := goodIn_app (goodIn_of _ (by decide +kernel)) ggX11_closes_X11_see
set_option maxRecDepth 20000 in
theorem ggX11_closes_X11_settles : GoodIn wsX11_closes wsX11_settles := goodIn_r _ [8, 1, 9, 2, 10, 11, 7, 12, 13, 14, 15, 16, 17, 18, 19, 30, 31, 32, 33, 34, 35, 36, 37, 38, 39, 40, 41, 42, 43, 44, 45, 46, 47, 48, 49, 50, 51, 52, 53, 54, 55, 56, 57, 58, 59, 60, 61, 62, 63, 64, 65, 66, 67, 68, 69, 70, 71] (by decide +kernel) (by decide +kernel)
set_option maxRecDepth 20000 in
theorem gX11_closes_X11_settles : GoodIn wsX11_closes (wsV RX11 192 RX11 yX11_settles wsX11_settles) := goodIn_app (goodIn_of _ (by decide +kernel)) ggX11_closes_X11_settles

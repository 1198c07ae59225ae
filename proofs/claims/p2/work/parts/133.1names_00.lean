set_option maxRecDepth 20000 in
theorem ggX11_count_X11_monthAt : GoodIn wsX11_count wsX11_monthAt := goodIn_r _ [8, 1, 9, 10, 11, 12, 13, 14, 15, 16, 17, 18, 19, 20, 21, 22, 23, 24, 25, 26, 27, 28, 29, 30, 31, 32, 33, 34, 35, 36, 37, 38, 39, 40, 41, 42, 43, 44, 45, 46, 47, 48, 49, 50] (by decide +kernel) (by decide +kernel)
set_option maxRecDepth 20000 in
theorem gX11_count_X11_monthAt : GoodIn wsX11_count (wsV RX11 291 RX11 yX11_monthAt wsX11_monthAt) := goodIn_app (goodIn_of _ (by decide +kernel)) ggX11_count_X11_monthAt

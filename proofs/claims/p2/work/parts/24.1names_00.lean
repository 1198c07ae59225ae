set_option maxRecDepth 20000 in
theorem ggX11_feed_X11_four : GoodIn wsX11_feed wsX11_four := goodIn_r _ [6, 7, 1, 8, 9, 10, 11, 12, 13, 14, 15, 16, 17, 18, 19, 20, 21, 22, 23, 24, 25, 26, 27, 28, 29, 30, 31, 32, 33, 34, 35, 36, 37, 38, 39, 40, 41, 42, 43, 44, 45, 46, 47, 48, 49] (by decide +kernel) (by decide +kernel)
set_option maxRecDepth 20000 in
theorem gX11_feed_X11_four : GoodIn wsX11_feed (wsV RX11 83 RX11 yX11_four wsX11_four) := goodIn_app (goodIn_of _ (by decide +kernel)) ggX11_feed_X11_four

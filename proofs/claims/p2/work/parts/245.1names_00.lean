set_option maxRecDepth 20000 in
theorem ggX11_makes_X11_fails : GoodIn wsX11_makes wsX11_fails := goodIn_r _ [6, 7, 8, 9, 10, 11, 12, 13, 14, 15, 16, 17, 18, 19, 20, 21, 22, 23, 24, 25, 26, 27, 28, 29, 30, 31, 32, 33, 34, 35, 36, 37, 38, 39, 40, 41, 42, 43, 44, 45, 46, 47, 48, 49] (by decide +kernel) (by decide +kernel)
set_option maxRecDepth 20000 in
theorem gX11_makes_X11_fails : GoodIn wsX11_makes (wsV RX11 111 RX11 yX11_fails wsX11_fails) := goodIn_app (goodIn_of _ (by decide +kernel)) ggX11_makes_X11_fails
set_option maxRecDepth 20000 in
theorem ggX11_opens_X11_fails : GoodIn wsX11_opens wsX11_fails := goodIn_r _ [9, 10, 11, 12, 13, 14, 15, 16, 17, 18, 19, 20, 21, 22, 23, 24, 25, 26, 27, 28, 29, 30, 31, 32, 33, 34, 35, 36, 37, 38, 39, 40, 41, 42, 43, 44, 45, 46, 47, 48, 49, 50, 51, 52] (by decide +kernel) (by decide +kernel)
set_option maxRecDepth 20000 in
theorem gX11_opens_X11_fails : GoodIn wsX11_opens (wsV RX11 111 RX11 yX11_fails wsX11_fails) := goodIn_app (goodIn_of _ (by decide +kernel)) ggX11_opens_X11_fails

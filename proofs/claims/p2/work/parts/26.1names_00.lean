set_option maxRecDepth 20000 in
theorem ggX11_settles_X11_puts : GoodIn wsX11_settles wsX11_puts := goodIn_r _ [11, 12, 13, 14, 15, 16, 17, 18, 19, 20, 21, 22, 23, 24, 25, 26, 27, 28, 29, 30, 31, 32, 33, 34, 35, 36, 37, 38, 39, 40, 41, 42, 43, 44, 45, 46, 47, 48, 49, 50, 51, 52, 53, 54, 55, 56] (by decide +kernel) (by decide +kernel)
set_option maxRecDepth 20000 in
theorem gX11_settles_X11_puts : GoodIn wsX11_settles (wsV RX11 160 RX11 yX11_puts wsX11_puts) := goodIn_app (goodIn_of _ (by decide +kernel)) ggX11_settles_X11_puts
set_option maxRecDepth 20000 in
theorem ggX11_settles_X11_strength : GoodIn wsX11_settles wsX11_strength := goodIn_r _ [7] (by decide +kernel) (by decide +kernel)
set_option maxRecDepth 20000 in
theorem gX11_settles_X11_strength : GoodIn wsX11_settles (va_wsS RX11 156 yX11_strength wsX11_strength) := goodIn_app (goodIn_of _ (by decide +kernel)) ggX11_settles_X11_strength

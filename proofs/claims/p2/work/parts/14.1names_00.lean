set_option maxRecDepth 20000 in
theorem ggX11_reckons_X11_one : GoodIn wsX11_reckons wsX11_one := goodIn_r _ [16] (by decide +kernel) (by decide +kernel)
set_option maxRecDepth 20000 in
theorem gX11_reckons_X11_one : GoodIn wsX11_reckons (va_wsS RX11 249 yX11_one wsX11_one) := goodIn_app (goodIn_of _ (by decide +kernel)) ggX11_reckons_X11_one
set_option maxRecDepth 20000 in
theorem ggX11_reckons_X11_pop : GoodIn wsX11_reckons wsX11_pop := goodIn_r _ [13, 1, 9, 17, 18, 19, 20, 21, 22, 23, 24, 25, 26, 27, 28, 29, 30, 31, 32, 33, 34, 35, 36, 37, 38, 39, 40, 41, 42, 43, 44, 45, 46, 47, 48, 49, 50, 51, 52, 53, 54, 55, 56, 57, 58] (by decide +kernel) (by decide +kernel)
set_option maxRecDepth 20000 in
theorem gX11_reckons_X11_pop : GoodIn wsX11_reckons (wsV RX11 245 RX11 yX11_pop wsX11_pop) := goodIn_app (goodIn_of _ (by decide +kernel)) ggX11_reckons_X11_pop
set_option maxRecDepth 20000 in
theorem ggX11_reckons_X11_push : GoodIn wsX11_reckons wsX11_push := goodIn_r _ [8, 9, 1, 17, 18, 19, 20, 21, 22, 23, 24, 25, 26, 27, 28, 29, 30, 31, 32, 33, 34, 35, 36, 37, 38, 39, 40, 41, 42, 43, 44, 45, 46, 47, 48, 49, 50, 51, 52, 53, 54, 55, 56, 57, 58] (by decide +kernel) (by decide +kernel)
set_option maxRecDepth 20000 in
theorem gX11_reckons_X11_push : GoodIn wsX11_reckons (wsV RX11 241 RX11 yX11_push wsX11_push) := goodIn_app (goodIn_of _ (by decide +kernel)) ggX11_reckons_X11_push

set_option maxRecDepth 20000 in
theorem ggX11_canTry_X11_in : GoodIn wsX11_canTry wsX11_in := goodIn_r _ [11] (by decide +kernel) (by decide +kernel)
set_option maxRecDepth 20000 in
theorem gX11_canTry_X11_in : GoodIn wsX11_canTry (va_wsS RX11 118 yX11_in wsX11_in) := goodIn_app (goodIn_of _ (by decide +kernel)) ggX11_canTry_X11_in
set_option maxRecDepth 20000 in
theorem ggX11_canTry_X11_isJarLike : GoodIn wsX11_canTry wsX11_isJarLike := goodIn_r _ [14, 2, 15, 9, 10, 6, 11] (by decide +kernel) (by decide +kernel)
set_option maxRecDepth 20000 in
theorem gX11_canTry_X11_isJarLike : GoodIn wsX11_canTry (va_wsS RX11 399 yX11_isJarLike wsX11_isJarLike) := goodIn_app (goodIn_of _ (by decide +kernel)) ggX11_canTry_X11_isJarLike
set_option maxRecDepth 20000 in
theorem ggX11_canTry_X11_isLaw : GoodIn wsX11_canTry wsX11_isLaw := goodIn_r _ [7, 8, 16, 17, 18, 19, 20, 21, 22, 23, 24, 25, 26, 27, 28, 29, 30, 31, 32, 33, 34, 35, 36, 37, 38, 39, 40, 41, 42, 43, 44, 45, 46, 47, 48, 49, 50, 51, 52, 53, 54, 55, 56, 57] (by decide +kernel) (by decide +kernel)
set_option maxRecDepth 20000 in
theorem gX11_canTry_X11_isLaw : GoodIn wsX11_canTry (wsV RX11 363 RX11 yX11_isLaw wsX11_isLaw) := goodIn_app (goodIn_of _ (by decide +kernel)) ggX11_canTry_X11_isLaw
set_option maxRecDepth 20000 in
theorem ggX11_isJarLike_X11_in : GoodIn wsX11_isJarLike wsX11_in := goodIn_r _ [6] (by decide +kernel) (by decide +kernel)
set_option maxRecDepth 20000 in
theorem gX11_isJarLike_X11_in : GoodIn wsX11_isJarLike (va_wsS RX11 118 yX11_in wsX11_in) := goodIn_app (goodIn_of _ (by decide +kernel)) ggX11_isJarLike_X11_in

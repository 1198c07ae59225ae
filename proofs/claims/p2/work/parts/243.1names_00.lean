set_option maxRecDepth 20000 in
theorem ggX11_numberHere_X11_fails : GoodIn wsX11_numberHere wsX11_fails := goodIn_r _ [17, 18, 22, 23, 24, 25, 26, 27, 28, 29, 30, 31, 32, 33, 34, 35, 36, 37, 38, 39, 40, 41, 42, 43, 44, 45, 46, 47, 48, 49, 50, 51, 52, 53, 54, 55, 56, 57, 58, 59, 60, 61, 62, 63] (by decide +kernel) (by decide +kernel)
set_option maxRecDepth 20000 in
theorem gX11_numberHere_X11_fails : GoodIn wsX11_numberHere (wsV RX11 111 RX11 yX11_fails wsX11_fails) := goodIn_app (goodIn_of _ (by decide +kernel)) ggX11_numberHere_X11_fails
set_option maxRecDepth 20000 in
theorem ggX11_numberHere_X11_in : GoodIn wsX11_numberHere wsX11_in := goodIn_r _ [21] (by decide +kernel) (by decide +kernel)
set_option maxRecDepth 20000 in
theorem gX11_numberHere_X11_in : GoodIn wsX11_numberHere (va_wsS RX11 118 yX11_in wsX11_in) := goodIn_app (goodIn_of _ (by decide +kernel)) ggX11_numberHere_X11_in
set_option maxRecDepth 20000 in
theorem ggX11_numberHere_X11_isDigit : GoodIn wsX11_numberHere wsX11_isDigit := goodIn_r _ [13, 9, 2, 22, 23, 24, 25, 26, 27, 28, 29, 30, 31, 32, 33, 34, 35, 36, 37, 38, 39, 40, 41, 42, 43, 44, 45, 46, 47, 48, 49, 50, 51, 52, 53, 54, 55, 56, 57, 58, 59, 60, 61, 62, 63] (by decide +kernel) (by decide +kernel)
set_option maxRecDepth 20000 in
theorem gX11_numberHere_X11_isDigit : GoodIn wsX11_numberHere (wsV RX11 108 RX11 yX11_isDigit wsX11_isDigit) := goodIn_app (goodIn_of _ (by decide +kernel)) ggX11_numberHere_X11_isDigit
set_option maxRecDepth 20000 in
theorem ggX11_numberHere_X11_see : GoodIn wsX11_numberHere wsX11_see := goodIn_r _ [8, 1, 9, 2, 22, 23, 24, 25, 26, 27, 28, 29, 30, 31, 32, 33, 34, 35, 36, 37, 38, 39, 40, 41, 42, 43, 44, 45, 46, 47, 48, 49, 50, 51, 52, 53, 54, 55, 56, 57, 58, 59, 60, 61, 62, 63] (by decide +kernel) (by decide +kernel)
set_option maxRecDepth 20000 in
theorem gX11_numberHere_X11_see : GoodIn wsX11_numberHere (wsV RX11 93 RX11 yX11_see wsX11_see) := goodIn_app (goodIn_of _ (by decide +kernel)) ggX11_numberHere_X11_see

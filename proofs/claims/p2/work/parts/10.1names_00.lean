set_option maxRecDepth 20000 in
theorem ggX11_hasSnow_X11_nodeOf : GoodIn wsX11_hasSnow wsX11_nodeOf := goodIn_r _ [5, 6, 7, 8, 9, 10, 11, 12, 13, 14, 15, 16, 17, 18, 19, 20, 21, 22, 23, 24, 25, 26, 27, 28, 29, 30, 31, 32, 33, 34, 35, 36, 37, 38, 39, 40, 41, 42, 43, 44, 45, 46, 47, 48] (by decide +kernel) (by decide +kernel)
set_option maxRecDepth 20000 in
theorem gX11_hasSnow_X11_nodeOf : GoodIn wsX11_hasSnow (wsV RX11 257 RX11 yX11_nodeOf wsX11_nodeOf) := goodIn_app (goodIn_of _ (by decide +kernel)) ggX11_hasSnow_X11_nodeOf
set_option maxRecDepth 20000 in
theorem ggX11_other_X11_passOf : GoodIn wsX11_other wsX11_passOf := goodIn_r _ [5, 6, 7, 8, 9, 10, 11, 12, 13, 14, 15, 16, 17, 18, 19, 20, 21, 22, 23, 24, 25, 26, 27, 28, 29, 30, 31, 32, 33, 34, 35, 36, 37, 38, 39, 40, 41, 42, 43, 44, 45, 46, 47, 48] (by decide +kernel) (by decide +kernel)
set_option maxRecDepth 20000 in
theorem gX11_other_X11_passOf : GoodIn wsX11_other (wsV RX11 303 RX11 yX11_passOf wsX11_passOf) := goodIn_app (goodIn_of _ (by decide +kernel)) ggX11_other_X11_passOf
set_option maxRecDepth 20000 in
theorem ggX11_stands_X11_isJar : GoodIn wsX11_stands wsX11_isJar := goodIn_r _ [5, 6, 11, 12, 13, 14, 15, 16, 17, 18, 19, 20, 21, 22, 23, 24, 25, 26, 27, 28, 29, 30, 31, 32, 33, 34, 35, 36, 37, 38, 39, 40, 41, 42, 43, 44, 45, 46, 47, 48, 49, 50, 51, 52] (by decide +kernel) (by decide +kernel)
set_option maxRecDepth 20000 in
theorem gX11_stands_X11_isJar : GoodIn wsX11_stands (wsV RX11 280 RX11 yX11_isJar wsX11_isJar) := goodIn_app (goodIn_of _ (by decide +kernel)) ggX11_stands_X11_isJar
set_option maxRecDepth 20000 in
theorem ggX11_stands_X11_jarOf : GoodIn wsX11_stands wsX11_jarOf := goodIn_r _ [10, 6, 11, 12, 13, 14, 15, 16, 17, 18, 19, 20, 21, 22, 23, 24, 25, 26, 27, 28, 29, 30, 31, 32, 33, 34, 35, 36, 37, 38, 39, 40, 41, 42, 43, 44, 45, 46, 47, 48, 49, 50, 51, 52] (by decide +kernel) (by decide +kernel)
set_option maxRecDepth 20000 in
theorem gX11_stands_X11_jarOf : GoodIn wsX11_stands (wsV RX11 283 RX11 yX11_jarOf wsX11_jarOf) := goodIn_app (goodIn_of _ (by decide +kernel)) ggX11_stands_X11_jarOf

set_option maxRecDepth 20000 in
theorem ggX11_store_X11_isNode : GoodIn wsX11_store wsX11_isNode := goodIn_r _ [7, 2, 15, 16, 17, 18, 19, 20, 21, 22, 23, 24, 25, 26, 27, 28, 29, 30, 31, 32, 33, 34, 35, 36, 37, 38, 39, 40, 41, 42, 43, 44, 45, 46, 47, 48, 49, 50, 51, 52, 53, 54, 55, 56] (by decide +kernel) (by decide +kernel)
set_option maxRecDepth 20000 in
theorem gX11_store_X11_isNode : GoodIn wsX11_store (wsV RX11 267 RX11 yX11_isNode wsX11_isNode) := goodIn_app (goodIn_of _ (by decide +kernel)) ggX11_store_X11_isNode
set_option maxRecDepth 20000 in
theorem ggX11_store_X11_nodeOf : GoodIn wsX11_store wsX11_nodeOf := goodIn_r _ [14, 2, 15, 16, 17, 18, 19, 20, 21, 22, 23, 24, 25, 26, 27, 28, 29, 30, 31, 32, 33, 34, 35, 36, 37, 38, 39, 40, 41, 42, 43, 44, 45, 46, 47, 48, 49, 50, 51, 52, 53, 54, 55, 56] (by decide +kernel) (by decide +kernel)
set_option maxRecDepth 20000 in
theorem gX11_store_X11_nodeOf : GoodIn wsX11_store (wsV RX11 257 RX11 yX11_nodeOf wsX11_nodeOf) := goodIn_app (goodIn_of _ (by decide +kernel)) ggX11_store_X11_nodeOf

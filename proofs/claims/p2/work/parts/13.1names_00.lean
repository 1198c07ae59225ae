set_option maxRecDepth 20000 in
theorem ggX11_at_X11_hasSnow : GoodIn wsX11_at wsX11_hasSnow := goodIn_r _ [22, 11, 12, 13, 6, 14, 2, 27, 28, 29, 30, 31, 32, 33, 34, 35, 36, 37, 38, 39, 40, 41, 42, 43, 44, 45, 46, 47, 48, 49, 50, 51, 52, 53, 54, 55, 56, 57, 58, 59, 60, 61, 62, 63, 64, 65, 66, 67, 68] (by decide +kernel) (by decide +kernel)
set_option maxRecDepth 20000 in
theorem gX11_at_X11_hasSnow : GoodIn wsX11_at (wsV RX11 294 RX11 yX11_hasSnow wsX11_hasSnow) := goodIn_app (goodIn_of _ (by decide +kernel)) ggX11_at_X11_hasSnow
set_option maxRecDepth 20000 in
theorem ggX11_at_X11_in : GoodIn wsX11_at wsX11_in := goodIn_r _ [10] (by decide +kernel) (by decide +kernel)
set_option maxRecDepth 20000 in
theorem gX11_at_X11_in : GoodIn wsX11_at (va_wsS RX11 118 yX11_in wsX11_in) := goodIn_app (goodIn_of _ (by decide +kernel)) ggX11_at_X11_in
set_option maxRecDepth 20000 in
theorem ggX11_at_X11_isNode : GoodIn wsX11_at wsX11_isNode := goodIn_r _ [7, 2, 27, 28, 29, 30, 31, 32, 33, 34, 35, 36, 37, 38, 39, 40, 41, 42, 43, 44, 45, 46, 47, 48, 49, 50, 51, 52, 53, 54, 55, 56, 57, 58, 59, 60, 61, 62, 63, 64, 65, 66, 67, 68] (by decide +kernel) (by decide +kernel)
set_option maxRecDepth 20000 in
theorem gX11_at_X11_isNode : GoodIn wsX11_at (wsV RX11 267 RX11 yX11_isNode wsX11_isNode) := goodIn_app (goodIn_of _ (by decide +kernel)) ggX11_at_X11_isNode
set_option maxRecDepth 20000 in
theorem ggX11_at_X11_jarOf : GoodIn wsX11_at wsX11_jarOf := goodIn_r _ [26, 2, 27, 28, 29, 30, 31, 32, 33, 34, 35, 36, 37, 38, 39, 40, 41, 42, 43, 44, 45, 46, 47, 48, 49, 50, 51, 52, 53, 54, 55, 56, 57, 58, 59, 60, 61, 62, 63, 64, 65, 66, 67, 68] (by decide +kernel) (by decide +kernel)
set_option maxRecDepth 20000 in
theorem gX11_at_X11_jarOf : GoodIn wsX11_at (wsV RX11 283 RX11 yX11_jarOf wsX11_jarOf) := goodIn_app (goodIn_of _ (by decide +kernel)) ggX11_at_X11_jarOf
set_option maxRecDepth 20000 in
theorem ggX11_at_X11_monthAt : GoodIn wsX11_at wsX11_monthAt := goodIn_r _ [18, 2, 27, 28, 29, 30, 31, 32, 33, 34, 35, 36, 37, 38, 39, 40, 41, 42, 43, 44, 45, 46, 47, 48, 49, 50, 51, 52, 53, 54, 55, 56, 57, 58, 59, 60, 61, 62, 63, 64, 65, 66, 67, 68] (by decide +kernel) (by decide +kernel)
set_option maxRecDepth 20000 in
theorem gX11_at_X11_monthAt : GoodIn wsX11_at (wsV RX11 291 RX11 yX11_monthAt wsX11_monthAt) := goodIn_app (goodIn_of _ (by decide +kernel)) ggX11_at_X11_monthAt
set_option maxRecDepth 20000 in
theorem ggX11_at_X11_nodeOf : GoodIn wsX11_at wsX11_nodeOf := goodIn_r _ [14, 2, 27, 28, 29, 30, 31, 32, 33, 34, 35, 36, 37, 38, 39, 40, 41, 42, 43, 44, 45, 46, 47, 48, 49, 50, 51, 52, 53, 54, 55, 56, 57, 58, 59, 60, 61, 62, 63, 64, 65, 66, 67, 68] (by decide +kernel) (by decide +kernel)
set_option maxRecDepth 20000 in
theorem gX11_at_X11_nodeOf : GoodIn wsX11_at (wsV RX11 257 RX11 yX11_nodeOf wsX11_nodeOf) := goodIn_app (goodIn_of _ (by decide +kernel)) ggX11_at_X11_nodeOf
set_option maxRecDepth 20000 in
theorem ggX11_isOfWay_X11_other : GoodIn wsX11_isOfWay wsX11_other := goodIn_r _ [6, 7, 8, 9, 5, 10, 1, 11, 12, 13, 14, 15, 16, 17, 18, 19, 20, 21, 22, 23, 24, 25, 26, 27, 28, 29, 30, 31, 32, 33, 34, 35, 36, 37, 38, 39, 40, 41, 42, 43, 44, 45, 46, 47, 48, 49, 50, 51, 52] (by decide +kernel) (by decide +kernel)
set_option maxRecDepth 20000 in
theorem gX11_isOfWay_X11_other : GoodIn wsX11_isOfWay (wsV RX11 309 RX11 yX11_other wsX11_other) := goodIn_app (goodIn_of _ (by decide +kernel)) ggX11_isOfWay_X11_other
set_option maxRecDepth 20000 in
theorem ggX11_of_X11_in : GoodIn wsX11_of wsX11_in := goodIn_r _ [10] (by decide +kernel) (by decide +kernel)
set_option maxRecDepth 20000 in
theorem gX11_of_X11_in : GoodIn wsX11_of (va_wsS RX11 118 yX11_in wsX11_in) := goodIn_app (goodIn_of _ (by decide +kernel)) ggX11_of_X11_in
set_option maxRecDepth 20000 in
theorem ggX11_of_X11_isJar : GoodIn wsX11_of wsX11_isJar := goodIn_r _ [6, 7, 15, 16, 17, 18, 19, 20, 21, 22, 23, 24, 25, 26, 27, 28, 29, 30, 31, 32, 33, 34, 35, 36, 37, 38, 39, 40, 41, 42, 43, 44, 45, 46, 47, 48, 49, 50, 51, 52, 53, 54, 55, 56] (by decide +kernel) (by decide +kernel)
set_option maxRecDepth 20000 in
theorem gX11_of_X11_isJar : GoodIn wsX11_of (wsV RX11 280 RX11 yX11_isJar wsX11_isJar) := goodIn_app (goodIn_of _ (by decide +kernel)) ggX11_of_X11_isJar
set_option maxRecDepth 20000 in
theorem ggX11_of_X11_jarOf : GoodIn wsX11_of wsX11_jarOf := goodIn_r _ [14, 7, 15, 16, 17, 18, 19, 20, 21, 22, 23, 24, 25, 26, 27, 28, 29, 30, 31, 32, 33, 34, 35, 36, 37, 38, 39, 40, 41, 42, 43, 44, 45, 46, 47, 48, 49, 50, 51, 52, 53, 54, 55, 56] (by decide +kernel) (by decide +kernel)
set_option maxRecDepth 20000 in
theorem gX11_of_X11_jarOf : GoodIn wsX11_of (wsV RX11 283 RX11 yX11_jarOf wsX11_jarOf) := goodIn_app (goodIn_of _ (by decide +kernel)) ggX11_of_X11_jarOf
set_option maxRecDepth 20000 in
theorem ggX11_wayEnd_X11_other : GoodIn wsX11_wayEnd wsX11_other := goodIn_r _ [6, 7, 8, 9, 5, 10, 1, 11, 12, 13, 14, 15, 16, 17, 18, 19, 20, 21, 22, 23, 24, 25, 26, 27, 28, 29, 30, 31, 32, 33, 34, 35, 36, 37, 38, 39, 40, 41, 42, 43, 44, 45, 46, 47, 48, 49, 50, 51, 52] (by decide +kernel) (by decide +kernel)
set_option maxRecDepth 20000 in
theorem gX11_wayEnd_X11_other : GoodIn wsX11_wayEnd (wsV RX11 309 RX11 yX11_other wsX11_other) := goodIn_app (goodIn_of _ (by decide +kernel)) ggX11_wayEnd_X11_other

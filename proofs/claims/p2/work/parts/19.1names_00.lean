set_option maxRecDepth 20000 in
theorem ggX11_enough_X11_in : GoodIn wsX11_enough wsX11_in := goodIn_r _ [15] (by decide +kernel) (by decide +kernel)
set_option maxRecDepth 20000 in
theorem gX11_enough_X11_in : GoodIn wsX11_enough (va_wsS RX11 118 yX11_in wsX11_in) := goodIn_app (goodIn_of _ (by decide +kernel)) ggX11_enough_X11_in
set_option maxRecDepth 20000 in
theorem ggX11_enough_X11_isEnough : GoodIn wsX11_enough wsX11_isEnough := goodIn_r _ [19, 12, 20, 21, 22, 5, 23, 24, 25, 26, 27, 28, 29, 30, 31, 32, 33, 34, 35, 36, 37, 38, 39, 40, 41, 42, 43, 44, 45, 46, 47, 48, 49, 50, 51, 52, 53, 54, 55, 56, 57, 58, 59, 60, 61, 62, 63, 64, 65, 66, 67, 68, 69, 70, 71, 72, 73, 74, 75, 76, 77, 78, 79, 80, 81, 82, 83, 84, 85, 86, 87, 88, 89, 90, 91, 92, 93, 94, 95, 96, 97, 98, 99, 100, 101, 102, 103, 104, 105] (by decide +kernel) (by decide +kernel)
set_option maxRecDepth 20000 in
theorem gX11_enough_X11_isEnough : GoodIn wsX11_enough (wsV RX11 463 RX11 yX11_isEnough wsX11_isEnough) := goodIn_app (goodIn_of _ (by decide +kernel)) ggX11_enough_X11_isEnough
set_option maxRecDepth 20000 in
theorem ggX11_enough_X11_isLaw : GoodIn wsX11_enough wsX11_isLaw := goodIn_r _ [6, 7, 64, 65, 66, 67, 68, 69, 70, 71, 72, 73, 74, 75, 76, 77, 78, 79, 80, 81, 82, 83, 84, 85, 86, 87, 88, 89, 90, 91, 92, 93, 94, 95, 96, 97, 98, 99, 100, 101, 102, 103, 104, 105] (by decide +kernel) (by decide +kernel)
set_option maxRecDepth 20000 in
theorem gX11_enough_X11_isLaw : GoodIn wsX11_enough (wsV RX11 363 RX11 yX11_isLaw wsX11_isLaw) := goodIn_app (goodIn_of _ (by decide +kernel)) ggX11_enough_X11_isLaw
set_option maxRecDepth 20000 in
theorem ggX11_enough_X11_isNode : GoodIn wsX11_enough wsX11_isNode := goodIn_r _ [11, 12, 64, 65, 66, 67, 68, 69, 70, 71, 72, 73, 74, 75, 76, 77, 78, 79, 80, 81, 82, 83, 84, 85, 86, 87, 88, 89, 90, 91, 92, 93, 94, 95, 96, 97, 98, 99, 100, 101, 102, 103, 104, 105] (by decide +kernel) (by decide +kernel)
set_option maxRecDepth 20000 in
theorem gX11_enough_X11_isNode : GoodIn wsX11_enough (wsV RX11 267 RX11 yX11_isNode wsX11_isNode) := goodIn_app (goodIn_of _ (by decide +kernel)) ggX11_enough_X11_isNode
set_option maxRecDepth 20000 in
theorem ggX11_isEnough_X11_bounded : GoodIn wsX11_isEnough wsX11_bounded := goodIn_r _ [46] (by decide +kernel) (by decide +kernel)
set_option maxRecDepth 20000 in
theorem gX11_isEnough_X11_bounded : GoodIn wsX11_isEnough (va_wsS RX11 322 yX11_bounded wsX11_bounded) := goodIn_app (goodIn_of _ (by decide +kernel)) ggX11_isEnough_X11_bounded
set_option maxRecDepth 20000 in
theorem ggX11_isEnough_X11_nodeWords : GoodIn wsX11_isEnough wsX11_nodeWords := goodIn_r _ [6, 7, 8, 9, 10, 5, 11, 12, 13, 14, 15, 1, 16, 17, 18, 19, 47, 48, 49, 50, 51, 52, 53, 54, 55, 56, 57, 58, 59, 60, 61, 62, 63, 64, 65, 66, 67, 68, 69, 70, 71, 72, 73, 74, 75, 76, 77, 78, 79, 80, 81, 82, 83, 84, 85, 86, 87, 88] (by decide +kernel) (by decide +kernel)
set_option maxRecDepth 20000 in
theorem gX11_isEnough_X11_nodeWords : GoodIn wsX11_isEnough (wsV RX11 330 RX11 yX11_nodeWords wsX11_nodeWords) := goodIn_app (goodIn_of _ (by decide +kernel)) ggX11_isEnough_X11_nodeWords
set_option maxRecDepth 20000 in
theorem ggX11_isEnough_X11_summed : GoodIn wsX11_isEnough wsX11_summed := goodIn_r _ [23, 24, 25, 26, 27, 28, 5, 29, 30, 31, 7, 32, 33, 34, 35, 36, 37, 38, 39, 40, 41, 42, 43, 47, 48, 49, 50, 51, 52, 53, 54, 55, 56, 57, 58, 59, 60, 61, 62, 63, 64, 65, 66, 67, 68, 69, 70, 71, 72, 73, 74, 75, 76, 77, 78, 79, 80, 81, 82, 83, 84, 85, 86, 87, 88] (by decide +kernel) (by decide +kernel)
set_option maxRecDepth 20000 in
theorem gX11_isEnough_X11_summed : GoodIn wsX11_isEnough (wsV RX11 318 RX11 yX11_summed wsX11_summed) := goodIn_app (goodIn_of _ (by decide +kernel)) ggX11_isEnough_X11_summed
set_option maxRecDepth 20000 in
theorem ggX11_least_X11_isEnough : GoodIn wsX11_least wsX11_isEnough := goodIn_r _ [16, 12, 17, 18, 19, 5, 20, 21, 22, 23, 24, 25, 26, 27, 28, 29, 30, 31, 32, 33, 34, 35, 36, 37, 38, 39, 40, 41, 42, 43, 44, 45, 46, 47, 48, 49, 50, 51, 52, 53, 54, 55, 56, 57, 58, 59, 60, 61, 62, 63, 64, 65, 66, 67, 68, 69, 70, 71, 72, 73, 74, 75, 76, 77, 78, 79, 80, 81, 82, 83, 84, 85, 86, 87, 88, 89, 90, 91, 92, 93, 94, 95, 96, 97, 98, 99, 100, 101, 102] (by decide +kernel) (by decide +kernel)
set_option maxRecDepth 20000 in
theorem gX11_least_X11_isEnough : GoodIn wsX11_least (wsV RX11 463 RX11 yX11_isEnough wsX11_isEnough) := goodIn_app (goodIn_of _ (by decide +kernel)) ggX11_least_X11_isEnough
set_option maxRecDepth 20000 in
theorem ggX11_least_X11_isLaw : GoodIn wsX11_least wsX11_isLaw := goodIn_r _ [6, 7, 61, 62, 63, 64, 65, 66, 67, 68, 69, 70, 71, 72, 73, 74, 75, 76, 77, 78, 79, 80, 81, 82, 83, 84, 85, 86, 87, 88, 89, 90, 91, 92, 93, 94, 95, 96, 97, 98, 99, 100, 101, 102] (by decide +kernel) (by decide +kernel)
set_option maxRecDepth 20000 in
theorem gX11_least_X11_isLaw : GoodIn wsX11_least (wsV RX11 363 RX11 yX11_isLaw wsX11_isLaw) := goodIn_app (goodIn_of _ (by decide +kernel)) ggX11_least_X11_isLaw
set_option maxRecDepth 20000 in
theorem ggX11_least_X11_isNode : GoodIn wsX11_least wsX11_isNode := goodIn_r _ [11, 12, 61, 62, 63, 64, 65, 66, 67, 68, 69, 70, 71, 72, 73, 74, 75, 76, 77, 78, 79, 80, 81, 82, 83, 84, 85, 86, 87, 88, 89, 90, 91, 92, 93, 94, 95, 96, 97, 98, 99, 100, 101, 102] (by decide +kernel) (by decide +kernel)
set_option maxRecDepth 20000 in
theorem gX11_least_X11_isNode : GoodIn wsX11_least (wsV RX11 267 RX11 yX11_isNode wsX11_isNode) := goodIn_app (goodIn_of _ (by decide +kernel)) ggX11_least_X11_isNode

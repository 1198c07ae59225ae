set_option maxRecDepth 20000 in
theorem ggX11_nights_X11_bounded : GoodIn wsX11_nights wsX11_bounded := goodIn_r _ [94] (by decide +kernel) (by decide +kernel)
set_option maxRecDepth 20000 in
theorem gX11_nights_X11_bounded : GoodIn wsX11_nights (va_wsS RX11 322 yX11_bounded wsX11_bounded) := goodIn_app (goodIn_of _ (by decide +kernel)) ggX11_nights_X11_bounded
set_option maxRecDepth 20000 in
theorem ggX11_nights_X11_draw : GoodIn wsX11_nights wsX11_draw := goodIn_r _ [102, 1, 103, 104, 105, 106, 10, 107, 108, 109, 110, 111, 112, 113, 114, 115, 116, 117, 118, 119, 120, 121, 122, 123, 124, 125, 126, 127, 128, 129, 130, 131, 132, 133, 134, 135, 136, 137, 138, 139, 140, 141, 142, 143, 144, 145, 146, 147, 148] (by decide +kernel) (by decide +kernel)
set_option maxRecDepth 20000 in
theorem gX11_nights_X11_draw : GoodIn wsX11_nights (wsV RX11 351 RX11 yX11_draw wsX11_draw) := goodIn_app (goodIn_of _ (by decide +kernel)) ggX11_nights_X11_draw
set_option maxRecDepth 20000 in
theorem ggX11_nights_X11_in : GoodIn wsX11_nights wsX11_in := goodIn_r _ [23] (by decide +kernel) (by decide +kernel)
set_option maxRecDepth 20000 in
theorem gX11_nights_X11_in : GoodIn wsX11_nights (va_wsS RX11 118 yX11_in wsX11_in) := goodIn_app (goodIn_of _ (by decide +kernel)) ggX11_nights_X11_in
set_option maxRecDepth 20000 in
theorem ggX11_nights_X11_isJar : GoodIn wsX11_nights wsX11_isJar := goodIn_r _ [20, 1, 107, 108, 109, 110, 111, 112, 113, 114, 115, 116, 117, 118, 119, 120, 121, 122, 123, 124, 125, 126, 127, 128, 129, 130, 131, 132, 133, 134, 135, 136, 137, 138, 139, 140, 141, 142, 143, 144, 145, 146, 147, 148] (by decide +kernel) (by decide +kernel)
set_option maxRecDepth 20000 in
theorem gX11_nights_X11_isJar : GoodIn wsX11_nights (wsV RX11 280 RX11 yX11_isJar wsX11_isJar) := goodIn_app (goodIn_of _ (by decide +kernel)) ggX11_nights_X11_isJar
set_option maxRecDepth 20000 in
theorem ggX11_nights_X11_isLaw : GoodIn wsX11_nights wsX11_isLaw := goodIn_r _ [15, 16, 107, 108, 109, 110, 111, 112, 113, 114, 115, 116, 117, 118, 119, 120, 121, 122, 123, 124, 125, 126, 127, 128, 129, 130, 131, 132, 133, 134, 135, 136, 137, 138, 139, 140, 141, 142, 143, 144, 145, 146, 147, 148] (by decide +kernel) (by decide +kernel)
set_option maxRecDepth 20000 in
theorem gX11_nights_X11_isLaw : GoodIn wsX11_nights (wsV RX11 363 RX11 yX11_isLaw wsX11_isLaw) := goodIn_app (goodIn_of _ (by decide +kernel)) ggX11_nights_X11_isLaw
set_option maxRecDepth 20000 in
theorem ggX11_nights_X11_jarOf : GoodIn wsX11_nights wsX11_jarOf := goodIn_r _ [27, 1, 107, 108, 109, 110, 111, 112, 113, 114, 115, 116, 117, 118, 119, 120, 121, 122, 123, 124, 125, 126, 127, 128, 129, 130, 131, 132, 133, 134, 135, 136, 137, 138, 139, 140, 141, 142, 143, 144, 145, 146, 147, 148] (by decide +kernel) (by decide +kernel)
set_option maxRecDepth 20000 in
theorem gX11_nights_X11_jarOf : GoodIn wsX11_nights (wsV RX11 283 RX11 yX11_jarOf wsX11_jarOf) := goodIn_app (goodIn_of _ (by decide +kernel)) ggX11_nights_X11_jarOf
set_option maxRecDepth 20000 in
theorem ggX11_nights_X11_nodeWords : GoodIn wsX11_nights wsX11_nodeWords := goodIn_r _ [98, 50, 52, 53, 54, 14, 55, 56, 57, 58, 59, 1, 60, 61, 62, 63, 107, 108, 109, 110, 111, 112, 113, 114, 115, 116, 117, 118, 119, 120, 121, 122, 123, 124, 125, 126, 127, 128, 129, 130, 131, 132, 133, 134, 135, 136, 137, 138, 139, 140, 141, 142, 143, 144, 145, 146, 147, 148] (by decide +kernel) (by decide +kernel)
set_option maxRecDepth 20000 in
theorem gX11_nights_X11_nodeWords : GoodIn wsX11_nights (wsV RX11 330 RX11 yX11_nodeWords wsX11_nodeWords) := goodIn_app (goodIn_of _ (by decide +kernel)) ggX11_nights_X11_nodeWords
set_option maxRecDepth 20000 in
theorem ggX11_nights_X11_passOf : GoodIn wsX11_nights wsX11_passOf := goodIn_r _ [45, 1, 107, 108, 109, 110, 111, 112, 113, 114, 115, 116, 117, 118, 119, 120, 121, 122, 123, 124, 125, 126, 127, 128, 129, 130, 131, 132, 133, 134, 135, 136, 137, 138, 139, 140, 141, 142, 143, 144, 145, 146, 147, 148] (by decide +kernel) (by decide +kernel)
set_option maxRecDepth 20000 in
theorem gX11_nights_X11_passOf : GoodIn wsX11_nights (wsV RX11 303 RX11 yX11_passOf wsX11_passOf) := goodIn_app (goodIn_of _ (by decide +kernel)) ggX11_nights_X11_passOf
set_option maxRecDepth 20000 in
theorem ggX11_nights_X11_sets : GoodIn wsX11_nights wsX11_sets := goodIn_r _ [31, 6, 7, 5, 8, 9, 32, 107, 108, 109, 110, 111, 112, 113, 114, 115, 116, 117, 118, 119, 120, 121, 122, 123, 124, 125, 126, 127, 128, 129, 130, 131, 132, 133, 134, 135, 136, 137, 138, 139, 140, 141, 142, 143, 144, 145, 146, 147, 148] (by decide +kernel) (by decide +kernel)
set_option maxRecDepth 20000 in
theorem gX11_nights_X11_sets : GoodIn wsX11_nights (wsV RX11 407 RX11 yX11_sets wsX11_sets) := goodIn_app (goodIn_of _ (by decide +kernel)) ggX11_nights_X11_sets
set_option maxRecDepth 20000 in
theorem ggX11_nights_X11_summed : GoodIn wsX11_nights wsX11_summed := goodIn_r _ [71, 72, 73, 74, 75, 76, 14, 77, 78, 79, 50, 80, 81, 82, 83, 84, 85, 86, 87, 88, 89, 90, 91, 107, 108, 109, 110, 111, 112, 113, 114, 115, 116, 117, 118, 119, 120, 121, 122, 123, 124, 125, 126, 127, 128, 129, 130, 131, 132, 133, 134, 135, 136, 137, 138, 139, 140, 141, 142, 143, 144, 145, 146, 147, 148] (by decide +kernel) (by decide +kernel)
set_option maxRecDepth 20000 in
theorem gX11_nights_X11_summed : GoodIn wsX11_nights (wsV RX11 318 RX11 yX11_summed wsX11_summed) := goodIn_app (goodIn_of _ (by decide +kernel)) ggX11_nights_X11_summed
set_option maxRecDepth 20000 in
theorem ggX11_nights_X11_travels : GoodIn wsX11_nights wsX11_travels := goodIn_r _ [36, 6, 5, 7, 8, 9, 32, 37, 38, 39, 40, 14, 41, 42, 43, 44, 45, 1, 46, 47, 48, 49, 50, 51, 52, 53, 54, 55, 56, 57, 58, 59, 60, 61, 62, 63, 64, 65, 66, 67, 68, 69, 70, 71, 72, 73, 74, 75, 76, 77, 78, 79, 80, 81, 82, 83, 84, 85, 86, 87, 88, 89, 90, 91, 92, 93, 94, 95, 96, 97, 98, 107, 108, 109, 110, 111, 112, 113, 114, 115, 116, 117, 118, 119, 120, 121, 122, 123, 124, 125, 126, 127, 128, 129, 130, 131, 132, 133, 134, 135, 136, 137, 138, 139, 140, 141, 142, 143, 144, 145, 146, 147, 148] (by decide +kernel) (by decide +kernel)
set_option maxRecDepth 20000 in
theorem gX11_nights_X11_travels : GoodIn wsX11_nights (wsV RX11 410 RX11 yX11_travels wsX11_travels) := goodIn_app (goodIn_of _ (by decide +kernel)) ggX11_nights_X11_travels
set_option maxRecDepth 20000 in
theorem ggX11_warmer_X11_canTry : GoodIn wsX11_warmer wsX11_canTry := goodIn_r _ [9, 2, 1, 10, 11, 12, 8, 13, 14, 15, 16, 17, 18, 19, 20, 21, 96, 97, 98, 99, 100, 101, 102, 103, 104, 105, 106, 107, 108, 109, 110, 111, 112, 113, 114, 115, 116, 117, 118, 119, 120, 121, 122, 123, 124, 125, 126, 127, 128, 129, 130, 131, 132, 133, 134, 135, 136, 137] (by decide +kernel) (by decide +kernel)
set_option maxRecDepth 20000 in
theorem gX11_warmer_X11_canTry : GoodIn wsX11_warmer (wsV RX11 403 RX11 yX11_canTry wsX11_canTry) := goodIn_app (goodIn_of _ (by decide +kernel)) ggX11_warmer_X11_canTry
set_option maxRecDepth 20000 in
theorem ggX11_warmer_X11_in : GoodIn wsX11_warmer wsX11_in := goodIn_r _ [17] (by decide +kernel) (by decide +kernel)
set_option maxRecDepth 20000 in
theorem gX11_warmer_X11_in : GoodIn wsX11_warmer (va_wsS RX11 118 yX11_in wsX11_in) := goodIn_app (goodIn_of _ (by decide +kernel)) ggX11_warmer_X11_in
set_option maxRecDepth 20000 in
theorem ggX11_warmer_X11_sets : GoodIn wsX11_warmer wsX11_sets := goodIn_r _ [25, 26, 4, 27, 28, 29, 3, 96, 97, 98, 99, 100, 101, 102, 103, 104, 105, 106, 107, 108, 109, 110, 111, 112, 113, 114, 115, 116, 117, 118, 119, 120, 121, 122, 123, 124, 125, 126, 127, 128, 129, 130, 131, 132, 133, 134, 135, 136, 137] (by decide +kernel) (by decide +kernel)
set_option maxRecDepth 20000 in
theorem gX11_warmer_X11_sets : GoodIn wsX11_warmer (wsV RX11 407 RX11 yX11_sets wsX11_sets) := goodIn_app (goodIn_of _ (by decide +kernel)) ggX11_warmer_X11_sets
set_option maxRecDepth 20000 in
theorem ggX11_warmer_X11_travels : GoodIn wsX11_warmer wsX11_travels := goodIn_r _ [33, 26, 27, 4, 28, 29, 3, 34, 35, 36, 37, 8, 38, 39, 40, 41, 42, 2, 43, 44, 45, 46, 47, 48, 49, 50, 51, 52, 53, 54, 55, 56, 57, 58, 59, 60, 61, 62, 63, 64, 65, 66, 67, 68, 69, 70, 71, 72, 73, 74, 75, 76, 77, 78, 79, 80, 81, 82, 83, 84, 85, 86, 87, 88, 89, 90, 91, 92, 93, 94, 95, 96, 97, 98, 99, 100, 101, 102, 103, 104, 105, 106, 107, 108, 109, 110, 111, 112, 113, 114, 115, 116, 117, 118, 119, 120, 121, 122, 123, 124, 125, 126, 127, 128, 129, 130, 131, 132, 133, 134, 135, 136, 137] (by decide +kernel) (by decide +kernel)
set_option maxRecDepth 20000 in
theorem gX11_warmer_X11_travels : GoodIn wsX11_warmer (wsV RX11 410 RX11 yX11_travels wsX11_travels) := goodIn_app (goodIn_of _ (by decide +kernel)) ggX11_warmer_X11_travels

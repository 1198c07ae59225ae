set_option maxRecDepth 20000 in
theorem ggX11_priceFrom_X11_canServe : GoodIn wsX11_priceFrom wsX11_canServe := goodIn_r _ [6, 7, 8, 9, 5, 10, 11, 12, 13, 14, 15, 16, 17, 18, 19, 20, 21, 22, 23, 24, 25, 26, 27, 28, 29, 30, 31, 32, 33, 34, 35, 36, 37, 38, 39, 40, 41, 42, 43, 44, 45, 46, 47, 48, 49, 50, 51, 52] (by decide +kernel) (by decide +kernel)
set_option maxRecDepth 20000 in
theorem gX11_priceFrom_X11_canServe : GoodIn wsX11_priceFrom (wsV RX11 453 RX11 yX11_canServe wsX11_canServe) := goodIn_app (goodIn_of _ (by decide +kernel)) ggX11_priceFrom_X11_canServe
set_option maxRecDepth 20000 in
theorem ggX11_servesBy_X11_jarOf : GoodIn wsX11_servesBy wsX11_jarOf := goodIn_r _ [15, 2, 108, 109, 110, 111, 112, 113, 114, 115, 116, 117, 118, 119, 120, 121, 122, 123, 124, 125, 126, 127, 128, 129, 130, 131, 132, 133, 134, 135, 136, 137, 138, 139, 140, 141, 142, 143, 144, 145, 146, 147, 148, 149] (by decide +kernel) (by decide +kernel)
set_option maxRecDepth 20000 in
theorem gX11_servesBy_X11_jarOf : GoodIn wsX11_servesBy (wsV RX11 283 RX11 yX11_jarOf wsX11_jarOf) := goodIn_app (goodIn_of _ (by decide +kernel)) ggX11_servesBy_X11_jarOf
set_option maxRecDepth 20000 in
theorem ggX11_servesBy_X11_searches : GoodIn wsX11_servesBy wsX11_searches := goodIn_r _ [19, 20, 21, 22, 23, 1, 24, 25, 26, 27, 2, 28, 29, 30, 31, 32, 6, 33, 34, 35, 36, 37, 38, 39, 40, 41, 42, 43, 44, 45, 46, 47, 48, 49, 50, 51, 52, 53, 54, 55, 56, 57, 58, 59, 60, 61, 62, 63, 64, 65, 66, 67, 68, 69, 70, 71, 72, 73, 74, 75, 76, 77, 78, 79, 80, 81, 82, 83, 84, 85, 86, 87, 88, 89, 90, 91, 92, 93, 94, 95, 96, 97, 98, 99, 100, 101, 102, 103, 104, 105, 106, 107, 108, 109, 110, 111, 112, 113, 114, 115, 116, 117, 118, 119, 120, 121, 122, 123, 124, 125, 126, 127, 128, 129, 130, 131, 132, 133, 134, 135, 136, 137, 138, 139, 140, 141, 142, 143, 144, 145, 146, 147, 148, 149] (by decide +kernel) (by decide +kernel)
set_option maxRecDepth 20000 in
theorem gX11_servesBy_X11_searches : GoodIn wsX11_servesBy (wsV RX11 426 RX11 yX11_searches wsX11_searches) := goodIn_app (goodIn_of _ (by decide +kernel)) ggX11_servesBy_X11_searches
set_option maxRecDepth 20000 in
theorem ggX11_servesBy_X11_stands : GoodIn wsX11_servesBy wsX11_stands := goodIn_r _ [7, 8, 9, 10, 6, 11, 2, 12, 13, 14, 15, 108, 109, 110, 111, 112, 113, 114, 115, 116, 117, 118, 119, 120, 121, 122, 123, 124, 125, 126, 127, 128, 129, 130, 131, 132, 133, 134, 135, 136, 137, 138, 139, 140, 141, 142, 143, 144, 145, 146, 147, 148, 149] (by decide +kernel) (by decide +kernel)
set_option maxRecDepth 20000 in
theorem gX11_servesBy_X11_stands : GoodIn wsX11_servesBy (wsV RX11 286 RX11 yX11_stands wsX11_stands) := goodIn_app (goodIn_of _ (by decide +kernel)) ggX11_servesBy_X11_stands
set_option maxRecDepth 20000 in
theorem ggX11_serves_X11_in : GoodIn wsX11_serves wsX11_in := goodIn_r _ [14] (by decide +kernel) (by decide +kernel)
set_option maxRecDepth 20000 in
theorem gX11_serves_X11_in : GoodIn wsX11_serves (va_wsS RX11 118 yX11_in wsX11_in) := goodIn_app (goodIn_of _ (by decide +kernel)) ggX11_serves_X11_in
set_option maxRecDepth 20000 in
theorem ggX11_serves_X11_isJar : GoodIn wsX11_serves wsX11_isJar := goodIn_r _ [11, 1, 120, 121, 122, 123, 124, 125, 126, 127, 128, 129, 130, 131, 132, 133, 134, 135, 136, 137, 138, 139, 140, 141, 142, 143, 144, 145, 146, 147, 148, 149, 150, 151, 152, 153, 154, 155, 156, 157, 158, 159, 160, 161] (by decide +kernel) (by decide +kernel)
set_option maxRecDepth 20000 in
theorem gX11_serves_X11_isJar : GoodIn wsX11_serves (wsV RX11 280 RX11 yX11_isJar wsX11_isJar) := goodIn_app (goodIn_of _ (by decide +kernel)) ggX11_serves_X11_isJar
set_option maxRecDepth 20000 in
theorem ggX11_serves_X11_isLaw : GoodIn wsX11_serves wsX11_isLaw := goodIn_r _ [6, 7, 120, 121, 122, 123, 124, 125, 126, 127, 128, 129, 130, 131, 132, 133, 134, 135, 136, 137, 138, 139, 140, 141, 142, 143, 144, 145, 146, 147, 148, 149, 150, 151, 152, 153, 154, 155, 156, 157, 158, 159, 160, 161] (by decide +kernel) (by decide +kernel)
set_option maxRecDepth 20000 in
theorem gX11_serves_X11_isLaw : GoodIn wsX11_serves (wsV RX11 363 RX11 yX11_isLaw wsX11_isLaw) := goodIn_app (goodIn_of _ (by decide +kernel)) ggX11_serves_X11_isLaw
set_option maxRecDepth 20000 in
theorem ggX11_serves_X11_servesBy : GoodIn wsX11_serves wsX11_servesBy := goodIn_r _ [18, 19, 1, 20, 21, 22, 5, 23, 8, 9, 10, 11, 24, 25, 26, 27, 28, 29, 30, 31, 32, 33, 34, 35, 36, 37, 38, 39, 40, 41, 42, 43, 44, 45, 46, 47, 48, 49, 50, 51, 52, 53, 54, 55, 56, 57, 58, 59, 60, 61, 62, 63, 64, 65, 66, 67, 68, 69, 70, 71, 72, 73, 74, 75, 76, 77, 78, 79, 80, 81, 82, 83, 84, 85, 86, 87, 88, 89, 90, 91, 92, 93, 94, 95, 96, 97, 98, 99, 100, 101, 102, 103, 104, 105, 106, 107, 108, 109, 110, 111, 112, 113, 114, 115, 116, 117, 118, 119, 120, 121, 122, 123, 124, 125, 126, 127, 128, 129, 130, 131, 132, 133, 134, 135, 136, 137, 138, 139, 140, 141, 142, 143, 144, 145, 146, 147, 148, 149, 150, 151, 152, 153, 154, 155, 156, 157, 158, 159, 160, 161] (by decide +kernel) (by decide +kernel)
set_option maxRecDepth 20000 in
theorem gX11_serves_X11_servesBy : GoodIn wsX11_serves (wsV RX11 447 RX11 yX11_servesBy wsX11_servesBy) := goodIn_app (goodIn_of _ (by decide +kernel)) ggX11_serves_X11_servesBy

set_option maxRecDepth 20000 in
theorem ggX11_best_X11_in : GoodIn wsX11_best wsX11_in := goodIn_r _ [20] (by decide +kernel) (by decide +kernel)
set_option maxRecDepth 20000 in
theorem gX11_best_X11_in : GoodIn wsX11_best (va_wsS RX11 118 yX11_in wsX11_in) := goodIn_app (goodIn_of _ (by decide +kernel)) ggX11_best_X11_in
set_option maxRecDepth 20000 in
theorem ggX11_best_X11_isJarLike : GoodIn wsX11_best wsX11_isJarLike := goodIn_r _ [23, 1, 24, 18, 19, 10, 20] (by decide +kernel) (by decide +kernel)
set_option maxRecDepth 20000 in
theorem gX11_best_X11_isJarLike : GoodIn wsX11_best (va_wsS RX11 399 yX11_isJarLike wsX11_isJarLike) := goodIn_app (goodIn_of _ (by decide +kernel)) ggX11_best_X11_isJarLike
set_option maxRecDepth 20000 in
theorem ggX11_best_X11_isLaw : GoodIn wsX11_best wsX11_isLaw := goodIn_r _ [11, 12, 119, 120, 121, 122, 123, 124, 125, 126, 127, 128, 129, 130, 131, 132, 133, 134, 135, 136, 137, 138, 139, 140, 141, 142, 143, 144, 145, 146, 147, 148, 149, 150, 151, 152, 153, 154, 155, 156, 157, 158, 159, 160] (by decide +kernel) (by decide +kernel)
set_option maxRecDepth 20000 in
theorem gX11_best_X11_isLaw : GoodIn wsX11_best (wsV RX11 363 RX11 yX11_isLaw wsX11_isLaw) := goodIn_app (goodIn_of _ (by decide +kernel)) ggX11_best_X11_isLaw
set_option maxRecDepth 20000 in
theorem ggX11_best_X11_isNode : GoodIn wsX11_best wsX11_isNode := goodIn_r _ [16, 17, 119, 120, 121, 122, 123, 124, 125, 126, 127, 128, 129, 130, 131, 132, 133, 134, 135, 136, 137, 138, 139, 140, 141, 142, 143, 144, 145, 146, 147, 148, 149, 150, 151, 152, 153, 154, 155, 156, 157, 158, 159, 160] (by decide +kernel) (by decide +kernel)
set_option maxRecDepth 20000 in
theorem gX11_best_X11_isNode : GoodIn wsX11_best (wsV RX11 267 RX11 yX11_isNode wsX11_isNode) := goodIn_app (goodIn_of _ (by decide +kernel)) ggX11_best_X11_isNode
set_option maxRecDepth 20000 in
theorem ggX11_best_X11_searchesDay : GoodIn wsX11_best wsX11_searchesDay := goodIn_r _ [28, 3, 29, 30, 31, 32, 10, 33, 34, 35, 36, 37, 4, 5, 6, 38, 17, 39, 40, 41, 42, 43, 44, 45, 46, 47, 48, 49, 50, 51, 52, 53, 54, 55, 56, 57, 58, 59, 60, 61, 62, 63, 64, 65, 66, 67, 68, 69, 70, 71, 72, 73, 74, 75, 76, 77, 78, 79, 80, 81, 82, 83, 84, 85, 86, 87, 88, 89, 90, 91, 92, 93, 94, 95, 96, 97, 98, 99, 100, 101, 102, 103, 104, 105, 106, 107, 108, 109, 110, 111, 112, 113, 114, 115, 116, 117, 118, 119, 120, 121, 122, 123, 124, 125, 126, 127, 128, 129, 130, 131, 132, 133, 134, 135, 136, 137, 138, 139, 140, 141, 142, 143, 144, 145, 146, 147, 148, 149, 150, 151, 152, 153, 154, 155, 156, 157, 158, 159, 160] (by decide +kernel) (by decide +kernel)
set_option maxRecDepth 20000 in
theorem gX11_best_X11_searchesDay : GoodIn wsX11_best (wsV RX11 430 RX11 yX11_searchesDay wsX11_searchesDay) := goodIn_app (goodIn_of _ (by decide +kernel)) ggX11_best_X11_searchesDay
set_option maxRecDepth 20000 in
theorem ggX11_price_X11_in : GoodIn wsX11_price wsX11_in := goodIn_r _ [16] (by decide +kernel) (by decide +kernel)
set_option maxRecDepth 20000 in
theorem gX11_price_X11_in : GoodIn wsX11_price (va_wsS RX11 118 yX11_in wsX11_in) := goodIn_app (goodIn_of _ (by decide +kernel)) ggX11_price_X11_in
set_option maxRecDepth 20000 in
theorem ggX11_price_X11_isLaw : GoodIn wsX11_price wsX11_isLaw := goodIn_r _ [7, 8, 118, 119, 120, 121, 122, 123, 124, 125, 126, 127, 128, 129, 130, 131, 132, 133, 134, 135, 136, 137, 138, 139, 140, 141, 142, 143, 144, 145, 146, 147, 148, 149, 150, 151, 152, 153, 154, 155, 156, 157, 158, 159] (by decide +kernel) (by decide +kernel)
set_option maxRecDepth 20000 in
theorem gX11_price_X11_isLaw : GoodIn wsX11_price (wsV RX11 363 RX11 yX11_isLaw wsX11_isLaw) := goodIn_app (goodIn_of _ (by decide +kernel)) ggX11_price_X11_isLaw
set_option maxRecDepth 20000 in
theorem ggX11_price_X11_isNode : GoodIn wsX11_price wsX11_isNode := goodIn_r _ [12, 13, 118, 119, 120, 121, 122, 123, 124, 125, 126, 127, 128, 129, 130, 131, 132, 133, 134, 135, 136, 137, 138, 139, 140, 141, 142, 143, 144, 145, 146, 147, 148, 149, 150, 151, 152, 153, 154, 155, 156, 157, 158, 159] (by decide +kernel) (by decide +kernel)
set_option maxRecDepth 20000 in
theorem gX11_price_X11_isNode : GoodIn wsX11_price (wsV RX11 267 RX11 yX11_isNode wsX11_isNode) := goodIn_app (goodIn_of _ (by decide +kernel)) ggX11_price_X11_isNode
set_option maxRecDepth 20000 in
theorem ggX11_price_X11_isPass : GoodIn wsX11_price wsX11_isPass := goodIn_r _ [20, 13, 118, 119, 120, 121, 122, 123, 124, 125, 126, 127, 128, 129, 130, 131, 132, 133, 134, 135, 136, 137, 138, 139, 140, 141, 142, 143, 144, 145, 146, 147, 148, 149, 150, 151, 152, 153, 154, 155, 156, 157, 158, 159] (by decide +kernel) (by decide +kernel)
set_option maxRecDepth 20000 in
theorem gX11_price_X11_isPass : GoodIn wsX11_price (wsV RX11 306 RX11 yX11_isPass wsX11_isPass) := goodIn_app (goodIn_of _ (by decide +kernel)) ggX11_price_X11_isPass
set_option maxRecDepth 20000 in
theorem ggX11_price_X11_searchesDay : GoodIn wsX11_price wsX11_searchesDay := goodIn_r _ [24, 2, 25, 26, 27, 28, 6, 29, 30, 31, 32, 33, 34, 35, 36, 37, 13, 38, 39, 40, 41, 42, 43, 44, 45, 46, 47, 48, 49, 50, 51, 52, 53, 54, 55, 56, 57, 58, 59, 60, 61, 62, 63, 64, 65, 66, 67, 68, 69, 70, 71, 72, 73, 74, 75, 76, 77, 78, 79, 80, 81, 82, 83, 84, 85, 86, 87, 88, 89, 90, 91, 92, 93, 94, 95, 96, 97, 98, 99, 100, 101, 102, 103, 104, 105, 106, 107, 108, 109, 110, 111, 112, 113, 114, 115, 116, 117, 118, 119, 120, 121, 122, 123, 124, 125, 126, 127, 128, 129, 130, 131, 132, 133, 134, 135, 136, 137, 138, 139, 140, 141, 142, 143, 144, 145, 146, 147, 148, 149, 150, 151, 152, 153, 154, 155, 156, 157, 158, 159] (by decide +kernel) (by decide +kernel)
set_option maxRecDepth 20000 in
theorem gX11_price_X11_searchesDay : GoodIn wsX11_price (wsV RX11 430 RX11 yX11_searchesDay wsX11_searchesDay) := goodIn_app (goodIn_of _ (by decide +kernel)) ggX11_price_X11_searchesDay
set_option maxRecDepth 20000 in
theorem ggX11_searchesDay_X11_searches : GoodIn wsX11_searchesDay wsX11_searches := goodIn_r _ [7, 8, 9, 10, 11, 1, 12, 13, 14, 15, 16, 17, 18, 19, 20, 21, 6, 22, 23, 24, 25, 26, 27, 28, 29, 30, 31, 32, 33, 34, 35, 36, 37, 38, 39, 40, 41, 42, 43, 44, 45, 46, 47, 48, 49, 50, 51, 52, 53, 54, 55, 56, 57, 58, 59, 60, 61, 62, 63, 64, 65, 66, 67, 68, 69, 70, 71, 72, 73, 74, 75, 76, 77, 78, 79, 80, 81, 82, 83, 84, 85, 86, 87, 88, 89, 90, 91, 92, 93, 94, 95, 96, 97, 98, 99, 100, 101, 102, 103, 104, 105, 106, 107, 108, 109, 110, 111, 112, 113, 114, 115, 116, 117, 118, 119, 120, 121, 122, 123, 124, 125, 126, 127, 128, 129, 130, 131, 132, 133, 134, 135, 136, 137, 138] (by decide +kernel) (by decide +kernel)
set_option maxRecDepth 20000 in
theorem gX11_searchesDay_X11_searches : GoodIn wsX11_searchesDay (wsV RX11 426 RX11 yX11_searches wsX11_searches) := goodIn_app (goodIn_of _ (by decide +kernel)) ggX11_searchesDay_X11_searches
set_option maxRecDepth 20000 in
theorem ggX11_searches_X11_other : GoodIn wsX11_searches wsX11_other := goodIn_r _ [17, 18, 19, 20, 16, 21, 10, 92, 93, 94, 95, 96, 97, 98, 99, 100, 101, 102, 103, 104, 105, 106, 107, 108, 109, 110, 111, 112, 113, 114, 115, 116, 117, 118, 119, 120, 121, 122, 123, 124, 125, 126, 127, 128, 129, 130, 131, 132, 133] (by decide +kernel) (by decide +kernel)
set_option maxRecDepth 20000 in
theorem gX11_searches_X11_other : GoodIn wsX11_searches (wsV RX11 309 RX11 yX11_other wsX11_other) := goodIn_app (goodIn_of _ (by decide +kernel)) ggX11_searches_X11_other
set_option maxRecDepth 20000 in
theorem ggX11_searches_X11_sets : GoodIn wsX11_searches wsX11_sets := goodIn_r _ [29, 30, 11, 12, 31, 32, 33, 92, 93, 94, 95, 96, 97, 98, 99, 100, 101, 102, 103, 104, 105, 106, 107, 108, 109, 110, 111, 112, 113, 114, 115, 116, 117, 118, 119, 120, 121, 122, 123, 124, 125, 126, 127, 128, 129, 130, 131, 132, 133] (by decide +kernel) (by decide +kernel)
set_option maxRecDepth 20000 in
theorem gX11_searches_X11_sets : GoodIn wsX11_searches (wsV RX11 407 RX11 yX11_sets wsX11_sets) := goodIn_app (goodIn_of _ (by decide +kernel)) ggX11_searches_X11_sets
set_option maxRecDepth 20000 in
theorem ggX11_searches_X11_travels : GoodIn wsX11_searches wsX11_travels := goodIn_r _ [37, 30, 12, 11, 31, 32, 33, 38, 13, 14, 15, 16, 17, 18, 19, 20, 21, 10, 39, 40, 41, 42, 43, 44, 45, 46, 47, 48, 49, 50, 51, 52, 53, 54, 55, 56, 57, 58, 59, 60, 61, 62, 63, 64, 65, 66, 67, 68, 69, 70, 71, 72, 73, 74, 75, 76, 77, 78, 79, 80, 81, 82, 83, 84, 85, 86, 87, 88, 89, 90, 91, 92, 93, 94, 95, 96, 97, 98, 99, 100, 101, 102, 103, 104, 105, 106, 107, 108, 109, 110, 111, 112, 113, 114, 115, 116, 117, 118, 119, 120, 121, 122, 123, 124, 125, 126, 127, 128, 129, 130, 131, 132, 133] (by decide +kernel) (by decide +kernel)
set_option maxRecDepth 20000 in
theorem gX11_searches_X11_travels : GoodIn wsX11_searches (wsV RX11 410 RX11 yX11_travels wsX11_travels) := goodIn_app (goodIn_of _ (by decide +kernel)) ggX11_searches_X11_travels
set_option maxRecDepth 20000 in
theorem ggX11_searches_X11_wasAt : GoodIn wsX11_searches wsX11_wasAt := goodIn_r _ [25, 1, 92, 93, 94, 95, 96, 97, 98, 99, 100, 101, 102, 103, 104, 105, 106, 107, 108, 109, 110, 111, 112, 113, 114, 115, 116, 117, 118, 119, 120, 121, 122, 123, 124, 125, 126, 127, 128, 129, 130, 131, 132, 133] (by decide +kernel) (by decide +kernel)
set_option maxRecDepth 20000 in
theorem gX11_searches_X11_wasAt : GoodIn wsX11_searches (wsV RX11 422 RX11 yX11_wasAt wsX11_wasAt) := goodIn_app (goodIn_of _ (by decide +kernel)) ggX11_searches_X11_wasAt

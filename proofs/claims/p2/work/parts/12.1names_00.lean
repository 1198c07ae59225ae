set_option maxRecDepth 20000 in
theorem ggX11_fill_X11_hasSnow : GoodIn wsX11_fill wsX11_hasSnow := goodIn_r _ [26, 27, 28, 29, 6, 30, 2, 31, 32, 33, 34, 35, 36, 37, 38, 39, 40, 41, 42, 43, 44, 45, 46, 47, 48, 49, 50, 51, 52, 53, 54, 55, 56, 57, 58, 59, 60, 61, 62, 63, 64, 65, 66, 67, 68, 69, 70, 71, 72] (by decide +kernel) (by decide +kernel)
set_option maxRecDepth 20000 in
theorem gX11_fill_X11_hasSnow : GoodIn wsX11_fill (wsV RX11 294 RX11 yX11_hasSnow wsX11_hasSnow) := goodIn_app (goodIn_of _ (by decide +kernel)) ggX11_fill_X11_hasSnow
set_option maxRecDepth 20000 in
theorem ggX11_fill_X11_in : GoodIn wsX11_fill wsX11_in := goodIn_r _ [18] (by decide +kernel) (by decide +kernel)
set_option maxRecDepth 20000 in
theorem gX11_fill_X11_in : GoodIn wsX11_fill (va_wsS RX11 118 yX11_in wsX11_in) := goodIn_app (goodIn_of _ (by decide +kernel)) ggX11_fill_X11_in
set_option maxRecDepth 20000 in
theorem ggX11_fill_X11_jarOf : GoodIn wsX11_fill wsX11_jarOf := goodIn_r _ [15, 2, 31, 32, 33, 34, 35, 36, 37, 38, 39, 40, 41, 42, 43, 44, 45, 46, 47, 48, 49, 50, 51, 52, 53, 54, 55, 56, 57, 58, 59, 60, 61, 62, 63, 64, 65, 66, 67, 68, 69, 70, 71, 72] (by decide +kernel) (by decide +kernel)
set_option maxRecDepth 20000 in
theorem gX11_fill_X11_jarOf : GoodIn wsX11_fill (wsV RX11 283 RX11 yX11_jarOf wsX11_jarOf) := goodIn_app (goodIn_of _ (by decide +kernel)) ggX11_fill_X11_jarOf
set_option maxRecDepth 20000 in
theorem ggX11_fill_X11_monthAt : GoodIn wsX11_fill wsX11_monthAt := goodIn_r _ [22, 2, 31, 32, 33, 34, 35, 36, 37, 38, 39, 40, 41, 42, 43, 44, 45, 46, 47, 48, 49, 50, 51, 52, 53, 54, 55, 56, 57, 58, 59, 60, 61, 62, 63, 64, 65, 66, 67, 68, 69, 70, 71, 72] (by decide +kernel) (by decide +kernel)
set_option maxRecDepth 20000 in
theorem gX11_fill_X11_monthAt : GoodIn wsX11_fill (wsV RX11 291 RX11 yX11_monthAt wsX11_monthAt) := goodIn_app (goodIn_of _ (by decide +kernel)) ggX11_fill_X11_monthAt
set_option maxRecDepth 20000 in
theorem ggX11_fill_X11_stands : GoodIn wsX11_fill wsX11_stands := goodIn_r _ [7, 8, 9, 10, 6, 11, 2, 12, 13, 14, 15, 31, 32, 33, 34, 35, 36, 37, 38, 39, 40, 41, 42, 43, 44, 45, 46, 47, 48, 49, 50, 51, 52, 53, 54, 55, 56, 57, 58, 59, 60, 61, 62, 63, 64, 65, 66, 67, 68, 69, 70, 71, 72] (by decide +kernel) (by decide +kernel)
set_option maxRecDepth 20000 in
theorem gX11_fill_X11_stands : GoodIn wsX11_fill (wsV RX11 286 RX11 yX11_stands wsX11_stands) := goodIn_app (goodIn_of _ (by decide +kernel)) ggX11_fill_X11_stands
set_option maxRecDepth 20000 in
theorem ggX11_hourWords_X11_monthAt : GoodIn wsX11_hourWords wsX11_monthAt := goodIn_r _ [6, 7, 8, 9, 10, 11, 12, 13, 14, 15, 16, 17, 18, 19, 20, 21, 22, 23, 24, 25, 26, 27, 28, 29, 30, 31, 32, 33, 34, 35, 36, 37, 38, 39, 40, 41, 42, 43, 44, 45, 46, 47, 48, 49] (by decide +kernel) (by decide +kernel)
set_option maxRecDepth 20000 in
theorem gX11_hourWords_X11_monthAt : GoodIn wsX11_hourWords (wsV RX11 291 RX11 yX11_monthAt wsX11_monthAt) := goodIn_app (goodIn_of _ (by decide +kernel)) ggX11_hourWords_X11_monthAt
set_option maxRecDepth 20000 in
theorem ggX11_leave_X11_isPass : GoodIn wsX11_leave wsX11_isPass := goodIn_r _ [18, 1, 27, 28, 29, 30, 31, 32, 33, 34, 35, 36, 37, 38, 39, 40, 41, 42, 43, 44, 45, 46, 47, 48, 49, 50, 51, 52, 53, 54, 55, 56, 57, 58, 59, 60, 61, 62, 63, 64, 65, 66, 67, 68] (by decide +kernel) (by decide +kernel)
set_option maxRecDepth 20000 in
theorem gX11_leave_X11_isPass : GoodIn wsX11_leave (wsV RX11 306 RX11 yX11_isPass wsX11_isPass) := goodIn_app (goodIn_of _ (by decide +kernel)) ggX11_leave_X11_isPass
set_option maxRecDepth 20000 in
theorem ggX11_leave_X11_jarOf : GoodIn wsX11_leave wsX11_jarOf := goodIn_r _ [14, 1, 27, 28, 29, 30, 31, 32, 33, 34, 35, 36, 37, 38, 39, 40, 41, 42, 43, 44, 45, 46, 47, 48, 49, 50, 51, 52, 53, 54, 55, 56, 57, 58, 59, 60, 61, 62, 63, 64, 65, 66, 67, 68] (by decide +kernel) (by decide +kernel)
set_option maxRecDepth 20000 in
theorem gX11_leave_X11_jarOf : GoodIn wsX11_leave (wsV RX11 283 RX11 yX11_jarOf wsX11_jarOf) := goodIn_app (goodIn_of _ (by decide +kernel)) ggX11_leave_X11_jarOf
set_option maxRecDepth 20000 in
theorem ggX11_leave_X11_other : GoodIn wsX11_leave wsX11_other := goodIn_r _ [22, 23, 24, 25, 5, 26, 1, 27, 28, 29, 30, 31, 32, 33, 34, 35, 36, 37, 38, 39, 40, 41, 42, 43, 44, 45, 46, 47, 48, 49, 50, 51, 52, 53, 54, 55, 56, 57, 58, 59, 60, 61, 62, 63, 64, 65, 66, 67, 68] (by decide +kernel) (by decide +kernel)
set_option maxRecDepth 20000 in
theorem gX11_leave_X11_other : GoodIn wsX11_leave (wsV RX11 309 RX11 yX11_other wsX11_other) := goodIn_app (goodIn_of _ (by decide +kernel)) ggX11_leave_X11_other
set_option maxRecDepth 20000 in
theorem ggX11_leave_X11_stands : GoodIn wsX11_leave wsX11_stands := goodIn_r _ [6, 7, 8, 9, 5, 10, 1, 11, 12, 13, 14, 27, 28, 29, 30, 31, 32, 33, 34, 35, 36, 37, 38, 39, 40, 41, 42, 43, 44, 45, 46, 47, 48, 49, 50, 51, 52, 53, 54, 55, 56, 57, 58, 59, 60, 61, 62, 63, 64, 65, 66, 67, 68] (by decide +kernel) (by decide +kernel)
set_option maxRecDepth 20000 in
theorem gX11_leave_X11_stands : GoodIn wsX11_leave (wsV RX11 286 RX11 yX11_stands wsX11_stands) := goodIn_app (goodIn_of _ (by decide +kernel)) ggX11_leave_X11_stands
set_option maxRecDepth 20000 in
theorem ggX11_nodeWords_X11_hourWords : GoodIn wsX11_nodeWords wsX11_hourWords := goodIn_r _ [6, 1, 7, 8, 9, 5, 10, 11, 16, 17, 18, 19, 20, 21, 22, 23, 24, 25, 26, 27, 28, 29, 30, 31, 32, 33, 34, 35, 36, 37, 38, 39, 40, 41, 42, 43, 44, 45, 46, 47, 48, 49, 50, 51, 52, 53, 54, 55, 56, 57] (by decide +kernel) (by decide +kernel)
set_option maxRecDepth 20000 in
theorem gX11_nodeWords_X11_hourWords : GoodIn wsX11_nodeWords (wsV RX11 312 RX11 yX11_hourWords wsX11_hourWords) := goodIn_app (goodIn_of _ (by decide +kernel)) ggX11_nodeWords_X11_hourWords
set_option maxRecDepth 20000 in
theorem ggX11_nodeWords_X11_nodeOf : GoodIn wsX11_nodeWords wsX11_nodeOf := goodIn_r _ [15, 11, 16, 17, 18, 19, 20, 21, 22, 23, 24, 25, 26, 27, 28, 29, 30, 31, 32, 33, 34, 35, 36, 37, 38, 39, 40, 41, 42, 43, 44, 45, 46, 47, 48, 49, 50, 51, 52, 53, 54, 55, 56, 57] (by decide +kernel) (by decide +kernel)
set_option maxRecDepth 20000 in
theorem gX11_nodeWords_X11_nodeOf : GoodIn wsX11_nodeWords (wsV RX11 257 RX11 yX11_nodeOf wsX11_nodeOf) := goodIn_app (goodIn_of _ (by decide +kernel)) ggX11_nodeWords_X11_nodeOf
set_option maxRecDepth 20000 in
theorem ggX11_passWords_X11_hourWords : GoodIn wsX11_passWords wsX11_hourWords := goodIn_r _ [7, 1, 8, 9, 10, 6, 11, 12, 25, 26, 27, 28, 29, 30, 31, 32, 33, 34, 35, 36, 37, 38, 39, 40, 41, 42, 43, 44, 45, 46, 47, 48, 49, 50, 51, 52, 53, 54, 55, 56, 57, 58, 59, 60, 61, 62, 63, 64, 65, 66] (by decide +kernel) (by decide +kernel)
set_option maxRecDepth 20000 in
theorem gX11_passWords_X11_hourWords : GoodIn wsX11_passWords (wsV RX11 312 RX11 yX11_hourWords wsX11_hourWords) := goodIn_app (goodIn_of _ (by decide +kernel)) ggX11_passWords_X11_hourWords
set_option maxRecDepth 20000 in
theorem ggX11_passWords_X11_nodeOf : GoodIn wsX11_passWords wsX11_nodeOf := goodIn_r _ [24, 12, 25, 26, 27, 28, 29, 30, 31, 32, 33, 34, 35, 36, 37, 38, 39, 40, 41, 42, 43, 44, 45, 46, 47, 48, 49, 50, 51, 52, 53, 54, 55, 56, 57, 58, 59, 60, 61, 62, 63, 64, 65, 66] (by decide +kernel) (by decide +kernel)
set_option maxRecDepth 20000 in
theorem gX11_passWords_X11_nodeOf : GoodIn wsX11_passWords (wsV RX11 257 RX11 yX11_nodeOf wsX11_nodeOf) := goodIn_app (goodIn_of _ (by decide +kernel)) ggX11_passWords_X11_nodeOf
set_option maxRecDepth 20000 in
theorem ggX11_passWords_X11_other : GoodIn wsX11_passWords wsX11_other := goodIn_r _ [20, 13, 14, 15, 6, 16, 12, 25, 26, 27, 28, 29, 30, 31, 32, 33, 34, 35, 36, 37, 38, 39, 40, 41, 42, 43, 44, 45, 46, 47, 48, 49, 50, 51, 52, 53, 54, 55, 56, 57, 58, 59, 60, 61, 62, 63, 64, 65, 66] (by decide +kernel) (by decide +kernel)
set_option maxRecDepth 20000 in
theorem gX11_passWords_X11_other : GoodIn wsX11_passWords (wsV RX11 309 RX11 yX11_other wsX11_other) := goodIn_app (goodIn_of _ (by decide +kernel)) ggX11_passWords_X11_other
set_option maxRecDepth 20000 in
theorem ggX11_passWords_X11_passOf : GoodIn wsX11_passWords wsX11_passOf := goodIn_r _ [16, 12, 25, 26, 27, 28, 29, 30, 31, 32, 33, 34, 35, 36, 37, 38, 39, 40, 41, 42, 43, 44, 45, 46, 47, 48, 49, 50, 51, 52, 53, 54, 55, 56, 57, 58, 59, 60, 61, 62, 63, 64, 65, 66] (by decide +kernel) (by decide +kernel)
set_option maxRecDepth 20000 in
theorem gX11_passWords_X11_passOf : GoodIn wsX11_passWords (wsV RX11 303 RX11 yX11_passOf wsX11_passOf) := goodIn_app (goodIn_of _ (by decide +kernel)) ggX11_passWords_X11_passOf
set_option maxRecDepth 20000 in
theorem ggX11_pour_X11_jarOf : GoodIn wsX11_pour wsX11_jarOf := goodIn_r _ [14, 1, 20, 21, 22, 23, 24, 25, 26, 27, 28, 29, 30, 31, 32, 33, 34, 35, 36, 37, 38, 39, 40, 41, 42, 43, 44, 45, 46, 47, 48, 49, 50, 51, 52, 53, 54, 55, 56, 57, 58, 59, 60, 61] (by decide +kernel) (by decide +kernel)
set_option maxRecDepth 20000 in
theorem gX11_pour_X11_jarOf : GoodIn wsX11_pour (wsV RX11 283 RX11 yX11_jarOf wsX11_jarOf) := goodIn_app (goodIn_of _ (by decide +kernel)) ggX11_pour_X11_jarOf
set_option maxRecDepth 20000 in
theorem ggX11_pour_X11_stands : GoodIn wsX11_pour wsX11_stands := goodIn_r _ [6, 7, 8, 9, 5, 10, 1, 11, 12, 13, 14, 20, 21, 22, 23, 24, 25, 26, 27, 28, 29, 30, 31, 32, 33, 34, 35, 36, 37, 38, 39, 40, 41, 42, 43, 44, 45, 46, 47, 48, 49, 50, 51, 52, 53, 54, 55, 56, 57, 58, 59, 60, 61] (by decide +kernel) (by decide +kernel)
set_option maxRecDepth 20000 in
theorem gX11_pour_X11_stands : GoodIn wsX11_pour (wsV RX11 286 RX11 yX11_stands wsX11_stands) := goodIn_app (goodIn_of _ (by decide +kernel)) ggX11_pour_X11_stands
set_option maxRecDepth 20000 in
theorem ggX11_pour_X11_stores : GoodIn wsX11_pour wsX11_stores := goodIn_r _ [18, 1, 19, 20, 21, 22, 23, 24, 25, 26, 27, 28, 29, 30, 31, 32, 33, 34, 35, 36, 37, 38, 39, 40, 41, 42, 43, 44, 45, 46, 47, 48, 49, 50, 51, 52, 53, 54, 55, 56, 57, 58, 59, 60, 61] (by decide +kernel) (by decide +kernel)
set_option maxRecDepth 20000 in
theorem gX11_pour_X11_stores : GoodIn wsX11_pour (wsV RX11 298 RX11 yX11_stores wsX11_stores) := goodIn_app (goodIn_of _ (by decide +kernel)) ggX11_pour_X11_stores
set_option maxRecDepth 20000 in
theorem ggX11_store_X11_in : GoodIn wsX11_store wsX11_in := goodIn_r _ [10] (by decide +kernel) (by decide +kernel)
set_option maxRecDepth 20000 in
theorem gX11_store_X11_in : GoodIn wsX11_store (va_wsS RX11 118 yX11_in wsX11_in) := goodIn_app (goodIn_of _ (by decide +kernel)) ggX11_store_X11_in

set_option maxRecDepth 20000 in
theorem ggX11_meltBy_X11_bounded : GoodIn wsX11_meltBy wsX11_bounded := goodIn_r _ [29] (by decide +kernel) (by decide +kernel)
set_option maxRecDepth 20000 in
theorem gX11_meltBy_X11_bounded : GoodIn wsX11_meltBy (va_wsS RX11 322 yX11_bounded wsX11_bounded) := goodIn_app (goodIn_of _ (by decide +kernel)) ggX11_meltBy_X11_bounded
set_option maxRecDepth 20000 in
theorem ggX11_meltBy_X11_summed : GoodIn wsX11_meltBy wsX11_summed := goodIn_r _ [5, 6, 7, 8, 9, 10, 4, 11, 12, 13, 14, 15, 16, 17, 18, 19, 20, 21, 22, 23, 24, 25, 26, 30, 31, 32, 33, 34, 35, 36, 37, 38, 39, 40, 41, 42, 43, 44, 45, 46, 47, 48, 49, 50, 51, 52, 53, 54, 55, 56, 57, 58, 59, 60, 61, 62, 63, 64, 65, 66, 67, 68, 69, 70, 71] (by decide +kernel) (by decide +kernel)
set_option maxRecDepth 20000 in
theorem gX11_meltBy_X11_summed : GoodIn wsX11_meltBy (wsV RX11 318 RX11 yX11_summed wsX11_summed) := goodIn_app (goodIn_of _ (by decide +kernel)) ggX11_meltBy_X11_summed
set_option maxRecDepth 20000 in
theorem ggX11_meltOf_X11_jarOf : GoodIn wsX11_meltOf wsX11_jarOf := goodIn_r _ [6, 1, 68, 69, 70, 71, 72, 73, 74, 75, 76, 77, 78, 79, 80, 81, 82, 83, 84, 85, 86, 87, 88, 89, 90, 91, 92, 93, 94, 95, 96, 97, 98, 99, 100, 101, 102, 103, 104, 105, 106, 107, 108, 109] (by decide +kernel) (by decide +kernel)
set_option maxRecDepth 20000 in
theorem gX11_meltOf_X11_jarOf : GoodIn wsX11_meltOf (wsV RX11 283 RX11 yX11_jarOf wsX11_jarOf) := goodIn_app (goodIn_of _ (by decide +kernel)) ggX11_meltOf_X11_jarOf
set_option maxRecDepth 20000 in
theorem ggX11_meltOf_X11_meltBy : GoodIn wsX11_meltOf wsX11_meltBy := goodIn_r _ [40, 41, 42, 43, 5, 44, 45, 46, 47, 48, 49, 50, 51, 52, 11, 53, 54, 55, 56, 57, 58, 59, 60, 61, 62, 63, 64, 65, 66, 67, 68, 69, 70, 71, 72, 73, 74, 75, 76, 77, 78, 79, 80, 81, 82, 83, 84, 85, 86, 87, 88, 89, 90, 91, 92, 93, 94, 95, 96, 97, 98, 99, 100, 101, 102, 103, 104, 105, 106, 107, 108, 109] (by decide +kernel) (by decide +kernel)
set_option maxRecDepth 20000 in
theorem gX11_meltOf_X11_meltBy : GoodIn wsX11_meltOf (wsV RX11 334 RX11 yX11_meltBy wsX11_meltBy) := goodIn_app (goodIn_of _ (by decide +kernel)) ggX11_meltOf_X11_meltBy
set_option maxRecDepth 20000 in
theorem ggX11_meltOf_X11_nodeWords : GoodIn wsX11_meltOf wsX11_nodeWords := goodIn_r _ [36, 11, 13, 14, 15, 5, 16, 17, 18, 19, 20, 1, 29, 30, 31, 32, 68, 69, 70, 71, 72, 73, 74, 75, 76, 77, 78, 79, 80, 81, 82, 83, 84, 85, 86, 87, 88, 89, 90, 91, 92, 93, 94, 95, 96, 97, 98, 99, 100, 101, 102, 103, 104, 105, 106, 107, 108, 109] (by decide +kernel) (by decide +kernel)
set_option maxRecDepth 20000 in
theorem gX11_meltOf_X11_nodeWords : GoodIn wsX11_meltOf (wsV RX11 330 RX11 yX11_nodeWords wsX11_nodeWords) := goodIn_app (goodIn_of _ (by decide +kernel)) ggX11_meltOf_X11_nodeWords
set_option maxRecDepth 20000 in
theorem ggX11_meltOf_X11_passWords : GoodIn wsX11_meltOf wsX11_passWords := goodIn_r _ [10, 11, 12, 13, 14, 15, 5, 16, 17, 18, 19, 20, 1, 21, 22, 23, 24, 25, 26, 27, 28, 29, 30, 31, 32, 68, 69, 70, 71, 72, 73, 74, 75, 76, 77, 78, 79, 80, 81, 82, 83, 84, 85, 86, 87, 88, 89, 90, 91, 92, 93, 94, 95, 96, 97, 98, 99, 100, 101, 102, 103, 104, 105, 106, 107, 108, 109] (by decide +kernel) (by decide +kernel)
set_option maxRecDepth 20000 in
theorem gX11_meltOf_X11_passWords : GoodIn wsX11_meltOf (wsV RX11 326 RX11 yX11_passWords wsX11_passWords) := goodIn_app (goodIn_of _ (by decide +kernel)) ggX11_meltOf_X11_passWords
set_option maxRecDepth 20000 in
theorem ggX11_melt_X11_isJar : GoodIn wsX11_melt wsX11_isJar := goodIn_r _ [10, 11, 81, 82, 83, 84, 85, 86, 87, 88, 89, 90, 91, 92, 93, 94, 95, 96, 97, 98, 99, 100, 101, 102, 103, 104, 105, 106, 107, 108, 109, 110, 111, 112, 113, 114, 115, 116, 117, 118, 119, 120, 121, 122] (by decide +kernel) (by decide +kernel)
set_option maxRecDepth 20000 in
theorem gX11_melt_X11_isJar : GoodIn wsX11_melt (wsV RX11 280 RX11 yX11_isJar wsX11_isJar) := goodIn_app (goodIn_of _ (by decide +kernel)) ggX11_melt_X11_isJar
set_option maxRecDepth 20000 in
theorem ggX11_melt_X11_isLaw : GoodIn wsX11_melt wsX11_isLaw := goodIn_r _ [5, 6, 81, 82, 83, 84, 85, 86, 87, 88, 89, 90, 91, 92, 93, 94, 95, 96, 97, 98, 99, 100, 101, 102, 103, 104, 105, 106, 107, 108, 109, 110, 111, 112, 113, 114, 115, 116, 117, 118, 119, 120, 121, 122] (by decide +kernel) (by decide +kernel)
set_option maxRecDepth 20000 in
theorem gX11_melt_X11_isLaw : GoodIn wsX11_melt (wsV RX11 363 RX11 yX11_isLaw wsX11_isLaw) := goodIn_app (goodIn_of _ (by decide +kernel)) ggX11_melt_X11_isLaw
set_option maxRecDepth 20000 in
theorem ggX11_melt_X11_jarOf : GoodIn wsX11_melt wsX11_jarOf := goodIn_r _ [15, 11, 81, 82, 83, 84, 85, 86, 87, 88, 89, 90, 91, 92, 93, 94, 95, 96, 97, 98, 99, 100, 101, 102, 103, 104, 105, 106, 107, 108, 109, 110, 111, 112, 113, 114, 115, 116, 117, 118, 119, 120, 121, 122] (by decide +kernel) (by decide +kernel)
set_option maxRecDepth 20000 in
theorem gX11_melt_X11_jarOf : GoodIn wsX11_melt (wsV RX11 283 RX11 yX11_jarOf wsX11_jarOf) := goodIn_app (goodIn_of _ (by decide +kernel)) ggX11_melt_X11_jarOf
set_option maxRecDepth 20000 in
theorem ggX11_melt_X11_meltOf : GoodIn wsX11_melt wsX11_meltOf := goodIn_r _ [19, 11, 12, 13, 14, 4, 15, 20, 21, 22, 23, 24, 25, 26, 27, 28, 29, 30, 31, 32, 33, 34, 35, 36, 37, 38, 39, 40, 41, 42, 43, 44, 45, 46, 47, 48, 49, 50, 51, 52, 53, 54, 55, 56, 57, 58, 59, 60, 61, 62, 63, 64, 65, 66, 67, 68, 69, 70, 71, 72, 73, 74, 75, 76, 77, 78, 79, 80, 81, 82, 83, 84, 85, 86, 87, 88, 89, 90, 91, 92, 93, 94, 95, 96, 97, 98, 99, 100, 101, 102, 103, 104, 105, 106, 107, 108, 109, 110, 111, 112, 113, 114, 115, 116, 117, 118, 119, 120, 121, 122] (by decide +kernel) (by decide +kernel)
set_option maxRecDepth 20000 in
theorem gX11_melt_X11_meltOf : GoodIn wsX11_melt (wsV RX11 357 RX11 yX11_meltOf wsX11_meltOf) := goodIn_app (goodIn_of _ (by decide +kernel)) ggX11_melt_X11_meltOf
set_option maxRecDepth 20000 in
theorem ggX11_summed_X11_reckons : GoodIn wsX11_summed wsX11_reckons := goodIn_r _ [7, 8, 9, 10, 11, 12, 13, 6, 14, 15, 16, 17, 18, 19, 20, 21, 22, 23, 24, 25, 26, 27, 28, 29, 30, 31, 32, 33, 34, 35, 36, 37, 38, 39, 40, 41, 42, 43, 44, 45, 46, 47, 48, 49, 50, 51, 52, 53, 54, 55, 56, 57, 58, 59, 60, 61, 62, 63, 64] (by decide +kernel) (by decide +kernel)
set_option maxRecDepth 20000 in
theorem gX11_summed_X11_reckons : GoodIn wsX11_summed (wsV RX11 253 RX11 yX11_reckons wsX11_reckons) := goodIn_app (goodIn_of _ (by decide +kernel)) ggX11_summed_X11_reckons
set_option maxRecDepth 20000 in
theorem ggX11_tick_X11_hour : GoodIn wsX11_tick wsX11_hour := goodIn_r _ [16, 2, 17, 18, 19, 7, 20, 21, 22, 23, 24, 25, 26, 27, 28, 29, 30, 31, 32, 33, 34, 35, 36, 37, 38, 39, 40, 41, 42, 43, 44, 45, 46, 47, 48, 49, 50, 51, 52, 53, 54, 55, 56, 57, 58, 59, 60, 61, 62, 63, 64, 65, 66, 67, 68, 69, 70, 71, 72, 73, 74, 75, 76, 77, 78, 79, 80, 81, 82, 83, 84, 85, 86, 87, 88, 89, 90, 91, 92, 93, 94, 95, 96, 97, 98, 99, 100, 101, 102, 103, 104, 105, 106, 107, 108, 109, 110, 111, 112, 113, 114, 115, 116, 117, 118, 119, 120, 121, 122, 123, 124, 125, 126, 127, 128, 129, 130, 131, 132, 133, 134, 135, 136, 137, 138, 139, 140, 141, 142, 143, 144, 145, 146, 147, 148, 149, 150, 151, 152, 153, 154, 155] (by decide +kernel) (by decide +kernel)
set_option maxRecDepth 20000 in
theorem gX11_tick_X11_hour : GoodIn wsX11_tick (wsV RX11 368 RX11 yX11_hour wsX11_hour) := goodIn_app (goodIn_of _ (by decide +kernel)) ggX11_tick_X11_hour
set_option maxRecDepth 20000 in
theorem ggX11_tick_X11_in : GoodIn wsX11_tick wsX11_in := goodIn_r _ [12] (by decide +kernel) (by decide +kernel)
set_option maxRecDepth 20000 in
theorem gX11_tick_X11_in : GoodIn wsX11_tick (va_wsS RX11 118 yX11_in wsX11_in) := goodIn_app (goodIn_of _ (by decide +kernel)) ggX11_tick_X11_in
set_option maxRecDepth 20000 in
theorem ggX11_tick_X11_isLaw : GoodIn wsX11_tick wsX11_isLaw := goodIn_r _ [8, 9, 114, 115, 116, 117, 118, 119, 120, 121, 122, 123, 124, 125, 126, 127, 128, 129, 130, 131, 132, 133, 134, 135, 136, 137, 138, 139, 140, 141, 142, 143, 144, 145, 146, 147, 148, 149, 150, 151, 152, 153, 154, 155] (by decide +kernel) (by decide +kernel)
set_option maxRecDepth 20000 in
theorem gX11_tick_X11_isLaw : GoodIn wsX11_tick (wsV RX11 363 RX11 yX11_isLaw wsX11_isLaw) := goodIn_app (goodIn_of _ (by decide +kernel)) ggX11_tick_X11_isLaw

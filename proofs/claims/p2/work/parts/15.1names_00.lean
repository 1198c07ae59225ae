set_option maxRecDepth 20000 in
theorem ggX11_bursts_X11_goesFor : GoodIn wsX11_bursts wsX11_goesFor := goodIn_r _ [7, 1, 12, 13, 14, 15, 16, 17, 18, 19, 20, 21, 22, 23, 24, 25, 26, 27, 28, 29, 30, 31, 32, 33, 34, 35, 36, 37, 38, 39, 40, 41, 42, 43, 44, 45, 46, 47, 48, 49, 50, 51, 52, 53] (by decide +kernel) (by decide +kernel)
set_option maxRecDepth 20000 in
theorem gX11_bursts_X11_goesFor : GoodIn wsX11_bursts (wsV RX11 346 RX11 yX11_goesFor wsX11_goesFor) := goodIn_app (goodIn_of _ (by decide +kernel)) ggX11_bursts_X11_goesFor
set_option maxRecDepth 20000 in
theorem ggX11_bursts_X11_jarOf : GoodIn wsX11_bursts wsX11_jarOf := goodIn_r _ [11, 1, 12, 13, 14, 15, 16, 17, 18, 19, 20, 21, 22, 23, 24, 25, 26, 27, 28, 29, 30, 31, 32, 33, 34, 35, 36, 37, 38, 39, 40, 41, 42, 43, 44, 45, 46, 47, 48, 49, 50, 51, 52, 53] (by decide +kernel) (by decide +kernel)
set_option maxRecDepth 20000 in
theorem gX11_bursts_X11_jarOf : GoodIn wsX11_bursts (wsV RX11 283 RX11 yX11_jarOf wsX11_jarOf) := goodIn_app (goodIn_of _ (by decide +kernel)) ggX11_bursts_X11_jarOf
set_option maxRecDepth 20000 in
theorem ggX11_comes_X11_bounded : GoodIn wsX11_comes wsX11_bounded := goodIn_r _ [48] (by decide +kernel) (by decide +kernel)
set_option maxRecDepth 20000 in
theorem gX11_comes_X11_bounded : GoodIn wsX11_comes (va_wsS RX11 322 yX11_bounded wsX11_bounded) := goodIn_app (goodIn_of _ (by decide +kernel)) ggX11_comes_X11_bounded
set_option maxRecDepth 20000 in
theorem ggX11_comes_X11_bursts : GoodIn wsX11_comes wsX11_bursts := goodIn_r _ [73, 1, 74, 66, 67, 68, 7, 69, 75, 76, 77, 78, 79, 80, 81, 82, 83, 84, 85, 86, 87, 88, 89, 90, 91, 92, 93, 94, 95, 96, 97, 98, 99, 100, 101, 102, 103, 104, 105, 106, 107, 108, 109, 110, 111, 112, 113, 114, 115, 116, 117, 118, 119, 120] (by decide +kernel) (by decide +kernel)
set_option maxRecDepth 20000 in
theorem gX11_comes_X11_bursts : GoodIn wsX11_comes (wsV RX11 354 RX11 yX11_bursts wsX11_bursts) := goodIn_app (goodIn_of _ (by decide +kernel)) ggX11_comes_X11_bursts
set_option maxRecDepth 20000 in
theorem ggX11_comes_X11_draw : GoodIn wsX11_comes wsX11_draw := goodIn_r _ [57, 1, 58, 59, 60, 61, 3, 79, 80, 81, 82, 83, 84, 85, 86, 87, 88, 89, 90, 91, 92, 93, 94, 95, 96, 97, 98, 99, 100, 101, 102, 103, 104, 105, 106, 107, 108, 109, 110, 111, 112, 113, 114, 115, 116, 117, 118, 119, 120] (by decide +kernel) (by decide +kernel)
set_option maxRecDepth 20000 in
theorem gX11_comes_X11_draw : GoodIn wsX11_comes (wsV RX11 351 RX11 yX11_draw wsX11_draw) := goodIn_app (goodIn_of _ (by decide +kernel)) ggX11_comes_X11_draw
set_option maxRecDepth 20000 in
theorem ggX11_comes_X11_goesFor : GoodIn wsX11_comes wsX11_goesFor := goodIn_r _ [69, 1, 79, 80, 81, 82, 83, 84, 85, 86, 87, 88, 89, 90, 91, 92, 93, 94, 95, 96, 97, 98, 99, 100, 101, 102, 103, 104, 105, 106, 107, 108, 109, 110, 111, 112, 113, 114, 115, 116, 117, 118, 119, 120] (by decide +kernel) (by decide +kernel)
set_option maxRecDepth 20000 in
theorem gX11_comes_X11_goesFor : GoodIn wsX11_comes (wsV RX11 346 RX11 yX11_goesFor wsX11_goesFor) := goodIn_app (goodIn_of _ (by decide +kernel)) ggX11_comes_X11_goesFor
set_option maxRecDepth 20000 in
theorem ggX11_comes_X11_nodeWords : GoodIn wsX11_comes wsX11_nodeWords := goodIn_r _ [8, 9, 10, 11, 12, 7, 13, 14, 15, 16, 17, 1, 18, 19, 20, 21, 79, 80, 81, 82, 83, 84, 85, 86, 87, 88, 89, 90, 91, 92, 93, 94, 95, 96, 97, 98, 99, 100, 101, 102, 103, 104, 105, 106, 107, 108, 109, 110, 111, 112, 113, 114, 115, 116, 117, 118, 119, 120] (by decide +kernel) (by decide +kernel)
set_option maxRecDepth 20000 in
theorem gX11_comes_X11_nodeWords : GoodIn wsX11_comes (wsV RX11 330 RX11 yX11_nodeWords wsX11_nodeWords) := goodIn_app (goodIn_of _ (by decide +kernel)) ggX11_comes_X11_nodeWords
set_option maxRecDepth 20000 in
theorem ggX11_comes_X11_passOf : GoodIn wsX11_comes wsX11_passOf := goodIn_r _ [65, 1, 79, 80, 81, 82, 83, 84, 85, 86, 87, 88, 89, 90, 91, 92, 93, 94, 95, 96, 97, 98, 99, 100, 101, 102, 103, 104, 105, 106, 107, 108, 109, 110, 111, 112, 113, 114, 115, 116, 117, 118, 119, 120] (by decide +kernel) (by decide +kernel)
set_option maxRecDepth 20000 in
theorem gX11_comes_X11_passOf : GoodIn wsX11_comes (wsV RX11 303 RX11 yX11_passOf wsX11_passOf) := goodIn_app (goodIn_of _ (by decide +kernel)) ggX11_comes_X11_passOf
set_option maxRecDepth 20000 in
theorem ggX11_comes_X11_stores : GoodIn wsX11_comes wsX11_stores := goodIn_r _ [52, 1, 53, 79, 80, 81, 82, 83, 84, 85, 86, 87, 88, 89, 90, 91, 92, 93, 94, 95, 96, 97, 98, 99, 100, 101, 102, 103, 104, 105, 106, 107, 108, 109, 110, 111, 112, 113, 114, 115, 116, 117, 118, 119, 120] (by decide +kernel) (by decide +kernel)
set_option maxRecDepth 20000 in
theorem gX11_comes_X11_stores : GoodIn wsX11_comes (wsV RX11 298 RX11 yX11_stores wsX11_stores) := goodIn_app (goodIn_of _ (by decide +kernel)) ggX11_comes_X11_stores
set_option maxRecDepth 20000 in
theorem ggX11_comes_X11_summed : GoodIn wsX11_comes wsX11_summed := goodIn_r _ [25, 26, 27, 28, 29, 30, 7, 31, 32, 33, 9, 34, 35, 36, 37, 38, 39, 40, 41, 42, 43, 44, 45, 79, 80, 81, 82, 83, 84, 85, 86, 87, 88, 89, 90, 91, 92, 93, 94, 95, 96, 97, 98, 99, 100, 101, 102, 103, 104, 105, 106, 107, 108, 109, 110, 111, 112, 113, 114, 115, 116, 117, 118, 119, 120] (by decide +kernel) (by decide +kernel)
set_option maxRecDepth 20000 in
theorem gX11_comes_X11_summed : GoodIn wsX11_comes (wsV RX11 318 RX11 yX11_summed wsX11_summed) := goodIn_app (goodIn_of _ (by decide +kernel)) ggX11_comes_X11_summed
set_option maxRecDepth 20000 in
theorem ggX11_hour_X11_bounded : GoodIn wsX11_hour wsX11_bounded := goodIn_r _ [71] (by decide +kernel) (by decide +kernel)
set_option maxRecDepth 20000 in
theorem gX11_hour_X11_bounded : GoodIn wsX11_hour (va_wsS RX11 322 yX11_bounded wsX11_bounded) := goodIn_app (goodIn_of _ (by decide +kernel)) ggX11_hour_X11_bounded
set_option maxRecDepth 20000 in
theorem ggX11_hour_X11_comes : GoodIn wsX11_hour wsX11_comes := goodIn_r _ [75, 1, 76, 77, 37, 38, 39, 5, 40, 15, 17, 18, 19, 20, 21, 22, 23, 24, 33, 34, 35, 36, 45, 46, 47, 48, 49, 50, 51, 52, 53, 54, 55, 56, 57, 58, 59, 60, 61, 62, 63, 64, 65, 66, 67, 68, 69, 70, 71, 78, 79, 80, 81, 82, 83, 84, 85, 86, 87, 88, 89, 90, 25, 26, 27, 28, 91, 92, 93, 94, 95, 96, 97, 98, 99, 2, 3, 4, 6, 100, 101, 102, 103, 104, 105, 106, 107, 108, 109, 110, 111, 112, 113, 114, 115, 116, 117, 118, 119, 120, 121, 122, 123, 124, 125, 126, 127, 128, 129, 130, 131, 132, 133, 134, 135, 136, 137, 138, 139, 140, 141] (by decide +kernel) (by decide +kernel)
set_option maxRecDepth 20000 in
theorem gX11_hour_X11_comes : GoodIn wsX11_hour (wsV RX11 360 RX11 yX11_comes wsX11_comes) := goodIn_app (goodIn_of _ (by decide +kernel)) ggX11_hour_X11_comes
set_option maxRecDepth 20000 in
theorem ggX11_hour_X11_jarOf : GoodIn wsX11_hour wsX11_jarOf := goodIn_r _ [6, 1, 100, 101, 102, 103, 104, 105, 106, 107, 108, 109, 110, 111, 112, 113, 114, 115, 116, 117, 118, 119, 120, 121, 122, 123, 124, 125, 126, 127, 128, 129, 130, 131, 132, 133, 134, 135, 136, 137, 138, 139, 140, 141] (by decide +kernel) (by decide +kernel)
set_option maxRecDepth 20000 in
theorem gX11_hour_X11_jarOf : GoodIn wsX11_hour (wsV RX11 283 RX11 yX11_jarOf wsX11_jarOf) := goodIn_app (goodIn_of _ (by decide +kernel)) ggX11_hour_X11_jarOf
set_option maxRecDepth 20000 in
theorem ggX11_hour_X11_meltOf : GoodIn wsX11_hour wsX11_meltOf := goodIn_r _ [10, 1, 2, 3, 4, 5, 6, 11, 12, 13, 14, 15, 16, 17, 18, 19, 20, 21, 22, 23, 24, 25, 26, 27, 28, 29, 30, 31, 32, 33, 34, 35, 36, 37, 38, 39, 40, 41, 42, 43, 44, 45, 46, 47, 48, 49, 50, 51, 52, 53, 54, 55, 56, 57, 58, 59, 60, 61, 62, 63, 64, 65, 66, 67, 68, 69, 70, 71, 100, 101, 102, 103, 104, 105, 106, 107, 108, 109, 110, 111, 112, 113, 114, 115, 116, 117, 118, 119, 120, 121, 122, 123, 124, 125, 126, 127, 128, 129, 130, 131, 132, 133, 134, 135, 136, 137, 138, 139, 140, 141] (by decide +kernel) (by decide +kernel)
set_option maxRecDepth 20000 in
theorem gX11_hour_X11_meltOf : GoodIn wsX11_hour (wsV RX11 357 RX11 yX11_meltOf wsX11_meltOf) := goodIn_app (goodIn_of _ (by decide +kernel)) ggX11_hour_X11_meltOf
set_option maxRecDepth 20000 in
theorem ggX11_hour_X11_nodeOf : GoodIn wsX11_hour wsX11_nodeOf := goodIn_r _ [36, 1, 100, 101, 102, 103, 104, 105, 106, 107, 108, 109, 110, 111, 112, 113, 114, 115, 116, 117, 118, 119, 120, 121, 122, 123, 124, 125, 126, 127, 128, 129, 130, 131, 132, 133, 134, 135, 136, 137, 138, 139, 140, 141] (by decide +kernel) (by decide +kernel)
set_option maxRecDepth 20000 in
theorem gX11_hour_X11_nodeOf : GoodIn wsX11_hour (wsV RX11 257 RX11 yX11_nodeOf wsX11_nodeOf) := goodIn_app (goodIn_of _ (by decide +kernel)) ggX11_hour_X11_nodeOf
set_option maxRecDepth 20000 in
theorem ggX11_hour_X11_nodeWords : GoodIn wsX11_hour wsX11_nodeWords := goodIn_r _ [40, 15, 17, 18, 19, 5, 20, 21, 22, 23, 24, 1, 33, 34, 35, 36, 100, 101, 102, 103, 104, 105, 106, 107, 108, 109, 110, 111, 112, 113, 114, 115, 116, 117, 118, 119, 120, 121, 122, 123, 124, 125, 126, 127, 128, 129, 130, 131, 132, 133, 134, 135, 136, 137, 138, 139, 140, 141] (by decide +kernel) (by decide +kernel)
set_option maxRecDepth 20000 in
theorem gX11_hour_X11_nodeWords : GoodIn wsX11_hour (wsV RX11 330 RX11 yX11_nodeWords wsX11_nodeWords) := goodIn_app (goodIn_of _ (by decide +kernel)) ggX11_hour_X11_nodeWords
set_option maxRecDepth 20000 in
theorem ggX11_hour_X11_passOf : GoodIn wsX11_hour wsX11_passOf := goodIn_r _ [28, 1, 100, 101, 102, 103, 104, 105, 106, 107, 108, 109, 110, 111, 112, 113, 114, 115, 116, 117, 118, 119, 120, 121, 122, 123, 124, 125, 126, 127, 128, 129, 130, 131, 132, 133, 134, 135, 136, 137, 138, 139, 140, 141] (by decide +kernel) (by decide +kernel)
set_option maxRecDepth 20000 in
theorem gX11_hour_X11_passOf : GoodIn wsX11_hour (wsV RX11 303 RX11 yX11_passOf wsX11_passOf) := goodIn_app (goodIn_of _ (by decide +kernel)) ggX11_hour_X11_passOf
set_option maxRecDepth 20000 in
theorem ggX11_hour_X11_summed : GoodIn wsX11_hour wsX11_summed := goodIn_r _ [48, 49, 50, 51, 52, 53, 5, 54, 55, 56, 15, 57, 58, 59, 60, 61, 62, 63, 64, 65, 66, 67, 68, 100, 101, 102, 103, 104, 105, 106, 107, 108, 109, 110, 111, 112, 113, 114, 115, 116, 117, 118, 119, 120, 121, 122, 123, 124, 125, 126, 127, 128, 129, 130, 131, 132, 133, 134, 135, 136, 137, 138, 139, 140, 141] (by decide +kernel) (by decide +kernel)
set_option maxRecDepth 20000 in
theorem gX11_hour_X11_summed : GoodIn wsX11_hour (wsV RX11 318 RX11 yX11_summed wsX11_summed) := goodIn_app (goodIn_of _ (by decide +kernel)) ggX11_hour_X11_summed

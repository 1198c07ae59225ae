set_option maxRecDepth 20000 in
theorem ggX11_travels_X11_bounded : GoodIn wsX11_travels wsX11_bounded := goodIn_r _ [66] (by decide +kernel) (by decide +kernel)
set_option maxRecDepth 20000 in
theorem gX11_travels_X11_bounded : GoodIn wsX11_travels (va_wsS RX11 322 yX11_bounded wsX11_bounded) := goodIn_app (goodIn_of _ (by decide +kernel)) ggX11_travels_X11_bounded
set_option maxRecDepth 20000 in
theorem ggX11_travels_X11_meltBy : GoodIn wsX11_travels wsX11_meltBy := goodIn_r _ [39, 40, 41, 42, 11, 43, 44, 45, 46, 47, 48, 49, 50, 51, 22, 52, 53, 54, 55, 56, 57, 58, 59, 60, 61, 62, 63, 64, 65, 66, 71, 72, 73, 74, 75, 76, 77, 78, 79, 80, 81, 82, 83, 84, 85, 86, 87, 88, 89, 90, 91, 92, 93, 94, 95, 96, 97, 98, 99, 100, 101, 102, 103, 104, 105, 106, 107, 108, 109, 110, 111, 112] (by decide +kernel) (by decide +kernel)
set_option maxRecDepth 20000 in
theorem gX11_travels_X11_meltBy : GoodIn wsX11_travels (wsV RX11 334 RX11 yX11_meltBy wsX11_meltBy) := goodIn_app (goodIn_of _ (by decide +kernel)) ggX11_travels_X11_meltBy
set_option maxRecDepth 20000 in
theorem ggX11_travels_X11_nodeWords : GoodIn wsX11_travels wsX11_nodeWords := goodIn_r _ [70, 22, 24, 25, 26, 11, 27, 28, 29, 30, 31, 17, 32, 33, 34, 35, 71, 72, 73, 74, 75, 76, 77, 78, 79, 80, 81, 82, 83, 84, 85, 86, 87, 88, 89, 90, 91, 92, 93, 94, 95, 96, 97, 98, 99, 100, 101, 102, 103, 104, 105, 106, 107, 108, 109, 110, 111, 112] (by decide +kernel) (by decide +kernel)
set_option maxRecDepth 20000 in
theorem gX11_travels_X11_nodeWords : GoodIn wsX11_travels (wsV RX11 330 RX11 yX11_nodeWords wsX11_nodeWords) := goodIn_app (goodIn_of _ (by decide +kernel)) ggX11_travels_X11_nodeWords
set_option maxRecDepth 20000 in
theorem ggX11_travels_X11_other : GoodIn wsX11_travels wsX11_other := goodIn_r _ [12, 13, 14, 15, 11, 16, 17, 71, 72, 73, 74, 75, 76, 77, 78, 79, 80, 81, 82, 83, 84, 85, 86, 87, 88, 89, 90, 91, 92, 93, 94, 95, 96, 97, 98, 99, 100, 101, 102, 103, 104, 105, 106, 107, 108, 109, 110, 111, 112] (by decide +kernel) (by decide +kernel)
set_option maxRecDepth 20000 in
theorem gX11_travels_X11_other : GoodIn wsX11_travels (wsV RX11 309 RX11 yX11_other wsX11_other) := goodIn_app (goodIn_of _ (by decide +kernel)) ggX11_travels_X11_other
set_option maxRecDepth 20000 in
theorem ggX11_travels_X11_passOf : GoodIn wsX11_travels wsX11_passOf := goodIn_r _ [16, 17, 71, 72, 73, 74, 75, 76, 77, 78, 79, 80, 81, 82, 83, 84, 85, 86, 87, 88, 89, 90, 91, 92, 93, 94, 95, 96, 97, 98, 99, 100, 101, 102, 103, 104, 105, 106, 107, 108, 109, 110, 111, 112] (by decide +kernel) (by decide +kernel)
set_option maxRecDepth 20000 in
theorem gX11_travels_X11_passOf : GoodIn wsX11_travels (wsV RX11 303 RX11 yX11_passOf wsX11_passOf) := goodIn_app (goodIn_of _ (by decide +kernel)) ggX11_travels_X11_passOf
set_option maxRecDepth 20000 in
theorem ggX11_travels_X11_passWords : GoodIn wsX11_travels wsX11_passWords := goodIn_r _ [21, 22, 23, 24, 25, 26, 11, 27, 28, 29, 30, 31, 17, 13, 14, 15, 16, 8, 9, 10, 12, 32, 33, 34, 35, 71, 72, 73, 74, 75, 76, 77, 78, 79, 80, 81, 82, 83, 84, 85, 86, 87, 88, 89, 90, 91, 92, 93, 94, 95, 96, 97, 98, 99, 100, 101, 102, 103, 104, 105, 106, 107, 108, 109, 110, 111, 112] (by decide +kernel) (by decide +kernel)
set_option maxRecDepth 20000 in
theorem gX11_travels_X11_passWords : GoodIn wsX11_travels (wsV RX11 326 RX11 yX11_passWords wsX11_passWords) := goodIn_app (goodIn_of _ (by decide +kernel)) ggX11_travels_X11_passWords
set_option maxRecDepth 20000 in
theorem ggX11_travels_X11_summed : GoodIn wsX11_travels wsX11_summed := goodIn_r _ [43, 44, 45, 46, 47, 48, 11, 49, 50, 51, 22, 52, 53, 54, 55, 56, 57, 58, 59, 60, 61, 62, 63, 71, 72, 73, 74, 75, 76, 77, 78, 79, 80, 81, 82, 83, 84, 85, 86, 87, 88, 89, 90, 91, 92, 93, 94, 95, 96, 97, 98, 99, 100, 101, 102, 103, 104, 105, 106, 107, 108, 109, 110, 111, 112] (by decide +kernel) (by decide +kernel)
set_option maxRecDepth 20000 in
theorem gX11_travels_X11_summed : GoodIn wsX11_travels (wsV RX11 318 RX11 yX11_summed wsX11_summed) := goodIn_app (goodIn_of _ (by decide +kernel)) ggX11_travels_X11_summed
set_option maxRecDepth 20000 in
theorem ggX11_tried_X11_canTry : GoodIn wsX11_tried wsX11_canTry := goodIn_r _ [8, 1, 9, 10, 11, 12, 7, 13, 14, 15, 16, 17, 18, 19, 20, 21, 96, 97, 98, 99, 100, 101, 102, 103, 104, 105, 106, 107, 108, 109, 110, 111, 112, 113, 114, 115, 116, 117, 118, 119, 120, 121, 122, 123, 124, 125, 126, 127, 128, 129, 130, 131, 132, 133, 134, 135, 136, 137] (by decide +kernel) (by decide +kernel)
set_option maxRecDepth 20000 in
theorem gX11_tried_X11_canTry : GoodIn wsX11_tried (wsV RX11 403 RX11 yX11_canTry wsX11_canTry) := goodIn_app (goodIn_of _ (by decide +kernel)) ggX11_tried_X11_canTry
set_option maxRecDepth 20000 in
theorem ggX11_tried_X11_in : GoodIn wsX11_tried wsX11_in := goodIn_r _ [17] (by decide +kernel) (by decide +kernel)
set_option maxRecDepth 20000 in
theorem gX11_tried_X11_in : GoodIn wsX11_tried (va_wsS RX11 118 yX11_in wsX11_in) := goodIn_app (goodIn_of _ (by decide +kernel)) ggX11_tried_X11_in
set_option maxRecDepth 20000 in
theorem ggX11_tried_X11_sets : GoodIn wsX11_tried wsX11_sets := goodIn_r _ [25, 26, 2, 3, 27, 28, 29, 96, 97, 98, 99, 100, 101, 102, 103, 104, 105, 106, 107, 108, 109, 110, 111, 112, 113, 114, 115, 116, 117, 118, 119, 120, 121, 122, 123, 124, 125, 126, 127, 128, 129, 130, 131, 132, 133, 134, 135, 136, 137] (by decide +kernel) (by decide +kernel)
set_option maxRecDepth 20000 in
theorem gX11_tried_X11_sets : GoodIn wsX11_tried (wsV RX11 407 RX11 yX11_sets wsX11_sets) := goodIn_app (goodIn_of _ (by decide +kernel)) ggX11_tried_X11_sets
set_option maxRecDepth 20000 in
theorem ggX11_tried_X11_travels : GoodIn wsX11_tried wsX11_travels := goodIn_r _ [33, 26, 3, 2, 27, 28, 29, 34, 35, 36, 37, 7, 38, 39, 40, 41, 42, 1, 43, 44, 45, 46, 47, 48, 49, 50, 51, 52, 53, 54, 55, 56, 57, 58, 59, 60, 61, 62, 63, 64, 65, 66, 67, 68, 69, 70, 71, 72, 73, 74, 75, 76, 77, 78, 79, 80, 81, 82, 83, 84, 85, 86, 87, 88, 89, 90, 91, 92, 93, 94, 95, 96, 97, 98, 99, 100, 101, 102, 103, 104, 105, 106, 107, 108, 109, 110, 111, 112, 113, 114, 115, 116, 117, 118, 119, 120, 121, 122, 123, 124, 125, 126, 127, 128, 129, 130, 131, 132, 133, 134, 135, 136, 137] (by decide +kernel) (by decide +kernel)
set_option maxRecDepth 20000 in
theorem gX11_tried_X11_travels : GoodIn wsX11_tried (wsV RX11 410 RX11 yX11_travels wsX11_travels) := goodIn_app (goodIn_of _ (by decide +kernel)) ggX11_tried_X11_travels
set_option maxRecDepth 20000 in
theorem ggX11_waits_X11_meltBy : GoodIn wsX11_waits wsX11_meltBy := goodIn_r _ [29, 30, 31, 32, 10, 33, 34, 35, 36, 37, 38, 39, 40, 41, 12, 42, 43, 44, 45, 46, 47, 48, 49, 50, 51, 52, 53, 54, 55, 56, 57, 58, 59, 60, 61, 62, 63, 64, 65, 66, 67, 68, 69, 70, 71, 72, 73, 74, 75, 76, 77, 78, 79, 80, 81, 82, 83, 84, 85, 86, 87, 88, 89, 90, 91, 92, 93, 94, 95, 96, 97, 98] (by decide +kernel) (by decide +kernel)
set_option maxRecDepth 20000 in
theorem gX11_waits_X11_meltBy : GoodIn wsX11_waits (wsV RX11 334 RX11 yX11_meltBy wsX11_meltBy) := goodIn_app (goodIn_of _ (by decide +kernel)) ggX11_waits_X11_meltBy
set_option maxRecDepth 20000 in
theorem ggX11_waits_X11_nodeWords : GoodIn wsX11_waits wsX11_nodeWords := goodIn_r _ [11, 12, 13, 14, 15, 10, 16, 17, 18, 19, 20, 21, 22, 23, 24, 25, 57, 58, 59, 60, 61, 62, 63, 64, 65, 66, 67, 68, 69, 70, 71, 72, 73, 74, 75, 76, 77, 78, 79, 80, 81, 82, 83, 84, 85, 86, 87, 88, 89, 90, 91, 92, 93, 94, 95, 96, 97, 98] (by decide +kernel) (by decide +kernel)
set_option maxRecDepth 20000 in
theorem gX11_waits_X11_nodeWords : GoodIn wsX11_waits (wsV RX11 330 RX11 yX11_nodeWords wsX11_nodeWords) := goodIn_app (goodIn_of _ (by decide +kernel)) ggX11_waits_X11_nodeWords

set_option maxRecDepth 20000 in
theorem ggX10_price_X10_isLoad : GoodIn wsX10_price wsX10_isLoad := goodIn_r _ [29, 30, 13, 14, 9, 15, 31, 32, 33] (by decide +kernel) (by decide +kernel)
set_option maxRecDepth 20000 in
theorem gX10_price_X10_isLoad : GoodIn wsX10_price (va_wsS RX10 191 yX10_isLoad wsX10_isLoad) := goodIn_app (goodIn_of _ (by decide +kernel)) ggX10_price_X10_isLoad
set_option maxRecDepth 20000 in
theorem ggX10_price_X5_aim : GoodIn wsX10_price wsX5_aim := goodIn_r _ [38, 39, 40, 41, 42, 43, 44, 45, 46, 47, 48, 49, 50, 37, 51, 52, 53, 54, 55, 56, 57, 58, 59, 60, 61, 62, 24, 63, 64, 65, 66, 67, 68, 69, 70, 71, 72, 73, 216, 217, 218, 219, 220, 221, 222, 223, 224, 225, 226, 227, 228, 206, 207, 208, 209, 210, 211, 212, 213, 214, 215, 229, 230, 231] (by decide +kernel) (by decide +kernel)
set_option maxRecDepth 20000 in
theorem gX10_price_X5_aim : GoodIn wsX10_price (wsV RX10 211 RX5 yX5_aim wsX5_aim) := goodIn_app (goodIn_of _ (by decide +kernel)) ggX10_price_X5_aim
set_option maxRecDepth 20000 in
theorem ggX10_price_X5_findBest : GoodIn wsX10_price wsX5_findBest := goodIn_r _ [89, 90, 91, 92, 46, 93, 94, 95, 37, 96, 44, 43, 39, 53, 54, 55, 40, 97, 98, 99, 100, 101, 41, 102, 103, 45, 47, 104, 105, 106, 107, 108, 109, 110, 111, 22, 23, 24, 25, 26, 112, 61, 62, 63, 64, 65, 66, 67, 68, 69, 52, 42, 113, 114, 115, 77, 116, 117, 118, 119, 80, 81, 82, 83, 85, 79, 120, 121, 122, 123, 124, 125, 126, 127, 128, 129, 130, 131, 132, 133, 134, 135, 136, 137, 138, 139, 140, 141, 142, 143, 84, 144, 145, 146, 147, 148, 149, 150, 151, 152, 153, 154, 155, 156, 157, 158, 159, 160, 161, 162, 163, 164, 165, 166, 167, 168, 169, 170, 171, 172, 173, 174, 175, 176, 177, 178, 179, 180, 181, 182, 183, 184, 185, 186, 187, 9, 188, 189, 190, 191, 192, 216, 217, 218, 219, 220, 221, 222, 223, 224, 225, 226, 227, 228, 232, 233, 234, 235, 236, 237, 238, 239, 240, 206, 207, 208, 209, 210, 211, 212, 213, 214, 215, 229, 230, 231, 241, 242, 243, 244, 245, 246, 247, 248, 249, 250, 251, 252, 253, 254, 255, 256, 257, 258, 259, 260, 261] (by decide +kernel) (by decide +kernel)
set_option maxRecDepth 20000 in
theorem gX10_price_X5_findBest : GoodIn wsX10_price (wsV RX10 214 RX5 yX5_findBest wsX5_findBest) := goodIn_app (goodIn_of _ (by decide +kernel)) ggX10_price_X5_findBest
set_option maxRecDepth 20000 in
theorem ggX10_price_X6_has : GoodIn wsX10_price wsX6_has := goodIn_r _ [25, 26, 229, 230, 231] (by decide +kernel) (by decide +kernel)
set_option maxRecDepth 20000 in
theorem gX10_price_X6_has : GoodIn wsX10_price (wsV RX10 97 RX6 yX6_has wsX6_has) := goodIn_app (goodIn_of _ (by decide +kernel)) ggX10_price_X6_has
set_option maxRecDepth 20000 in
theorem ggX10_price_X7_begin : GoodIn wsX10_price wsX7_begin := goodIn_r _ [78, 79, 80, 81, 82, 83, 84, 85, 232, 233, 234, 235, 236, 237, 238, 239, 240] (by decide +kernel) (by decide +kernel)
set_option maxRecDepth 20000 in
theorem gX10_price_X7_begin : GoodIn wsX10_price (wsV RX10 195 RX7 yX7_begin wsX7_begin) := goodIn_app (goodIn_of _ (by decide +kernel)) ggX10_price_X7_begin
set_option maxRecDepth 20000 in
theorem ggX10_serves_X5_leftFor : GoodIn wsX10_serves wsX5_leftFor := goodIn_r _ [25, 26, 27, 28, 29, 30, 31, 32, 33, 34, 35, 36, 37, 38, 39, 40, 41, 16, 17, 18, 19, 20, 42, 43, 44, 45, 46, 47, 48, 49, 50, 51, 24, 52, 53, 54, 55, 56, 57, 58, 59, 60, 61, 62, 63, 64, 65, 66, 67, 68, 69, 70, 71, 72, 73, 74, 75, 76, 77, 78, 79, 80, 81, 82, 83, 84, 85, 86, 87, 88, 89, 90, 91, 92, 93, 94, 95, 96, 97, 98, 99, 100, 101, 102, 103, 104, 105, 106, 107, 108, 109, 110, 111, 112, 113, 114, 115, 116, 117, 118, 119, 120, 121, 122, 123, 124, 125, 126, 127, 128, 129, 130, 131, 132, 133, 134, 135, 136, 137, 138, 139, 140, 141, 142, 143, 144, 145, 146, 147, 148, 149, 150, 151, 152, 153, 154, 155, 156, 157, 158, 159, 160, 161, 162, 163, 164, 165, 166, 167, 168, 169, 170, 171, 172, 173, 174, 175, 176, 177, 178, 179, 180, 181, 182, 8, 183, 184, 185, 186, 187, 214, 215, 216, 217, 218, 219, 220, 221, 222, 223, 224, 225, 226, 201, 202, 203, 204, 205, 206, 207, 208, 209, 210, 227, 228, 229, 230, 231, 232, 233, 234, 235, 211, 212, 213, 236, 237, 238, 239, 240, 241, 242, 243, 244, 245, 246, 247, 248, 249, 250, 251, 252, 253, 254, 255, 256] (by decide +kernel) (by decide +kernel)
set_option maxRecDepth 20000 in
theorem gX10_serves_X5_leftFor : GoodIn wsX10_serves (wsV RX10 266 RX5 yX5_leftFor wsX5_leftFor) := goodIn_app (goodIn_of _ (by decide +kernel)) ggX10_serves_X5_leftFor
set_option maxRecDepth 20000 in
theorem ggX10_serves_X6_has : GoodIn wsX10_serves wsX6_has := goodIn_r _ [19, 20, 211, 212, 213] (by decide +kernel) (by decide +kernel)
set_option maxRecDepth 20000 in
theorem gX10_serves_X6_has : GoodIn wsX10_serves (wsV RX10 97 RX6 yX6_has wsX6_has) := goodIn_app (goodIn_of _ (by decide +kernel)) ggX10_serves_X6_has
set_option maxRecDepth 20000 in
theorem ggX10_tick_X0_step : GoodIn wsX10_tick wsX0_step := goodIn_r _ [19, 20, 21, 22, 23, 24, 25, 26, 27, 28, 29, 30, 31, 32, 33, 18, 34, 35, 36, 37, 38, 39, 40, 41, 42, 43, 44, 45, 46, 47, 48, 49, 50, 51, 52, 53, 54, 55, 56, 57, 58, 59, 60, 61, 62, 63, 64, 65, 66, 67, 68, 69, 70, 71, 72, 73, 74, 75, 76, 77, 78, 79, 80, 81, 82, 83, 84, 85, 86, 87, 88, 89, 90, 91, 92, 93, 94, 95, 96, 97, 98, 99, 100, 101, 102, 103, 104, 105, 106, 107, 108, 109, 110, 111, 112, 113, 114, 115, 116, 117, 118, 119, 120, 121, 8, 122, 123, 124, 125, 126, 127, 128, 129, 130, 131, 132, 133, 134, 135, 136, 137, 138, 139, 140, 141, 142, 143, 144, 145, 146, 147, 148, 149, 150, 151, 152, 153, 154, 155, 156, 157, 158, 159, 160, 161, 162, 163, 164, 165, 166, 167, 168, 169, 170, 171, 172, 173, 187, 188, 189, 190, 191, 192, 193, 194, 195, 196, 197, 198, 199, 200, 201, 202, 203, 204, 205, 206, 207, 208, 209, 210, 211, 212, 213, 214, 215, 216, 217, 218, 219, 220, 221] (by decide +kernel) (by decide +kernel)
set_option maxRecDepth 20000 in
theorem gX10_tick_X0_step : GoodIn wsX10_tick (wsV RX10 165 RX0 yX0_step wsX0_step) := goodIn_app (goodIn_of _ (by decide +kernel)) ggX10_tick_X0_step
set_option maxRecDepth 20000 in
theorem ggX10_tried_X10_isLoad : GoodIn wsX10_tried wsX10_isLoad := goodIn_r _ [18, 19, 13, 14, 9, 15, 20, 21, 22] (by decide +kernel) (by decide +kernel)
set_option maxRecDepth 20000 in
theorem gX10_tried_X10_isLoad : GoodIn wsX10_tried (va_wsS RX10 191 yX10_isLoad wsX10_isLoad) := goodIn_app (goodIn_of _ (by decide +kernel)) ggX10_tried_X10_isLoad
set_option maxRecDepth 20000 in
theorem ggX10_tried_X10_within : GoodIn wsX10_tried wsX10_within := goodIn_r _ [15] (by decide +kernel) (by decide +kernel)
set_option maxRecDepth 20000 in
theorem gX10_tried_X10_within : GoodIn wsX10_tried (va_wsS RX10 79 yX10_within wsX10_within) := goodIn_app (goodIn_of _ (by decide +kernel)) ggX10_tried_X10_within
set_option maxRecDepth 20000 in
theorem ggX10_tried_X7_begin : GoodIn wsX10_tried wsX7_begin := goodIn_r _ [27, 28, 29, 30, 31, 32, 33, 34, 162, 163, 164, 165, 166, 167, 168, 169, 170] (by decide +kernel) (by decide +kernel)
set_option maxRecDepth 20000 in
theorem gX10_tried_X7_begin : GoodIn wsX10_tried (wsV RX10 195 RX7 yX7_begin wsX7_begin) := goodIn_app (goodIn_of _ (by decide +kernel)) ggX10_tried_X7_begin
set_option maxRecDepth 20000 in
theorem ggX10_tried_X7_followKeeping : GoodIn wsX10_tried wsX7_followKeeping := goodIn_r _ [38, 39, 40, 41, 42, 30, 43, 44, 45, 46, 47, 48, 49, 50, 51, 52, 26, 53, 54, 55, 29, 31, 32, 34, 28, 56, 57, 58, 59, 60, 61, 62, 63, 64, 65, 66, 67, 68, 69, 70, 71, 72, 73, 74, 75, 76, 77, 78, 79, 80, 81, 82, 83, 84, 85, 86, 87, 88, 89, 33, 90, 91, 92, 93, 94, 95, 96, 97, 98, 99, 100, 101, 102, 103, 104, 105, 106, 107, 108, 109, 110, 111, 112, 113, 114, 115, 116, 117, 118, 119, 120, 121, 122, 123, 124, 125, 126, 127, 128, 129, 130, 131, 132, 133, 9, 134, 135, 136, 137, 138, 162, 163, 164, 165, 166, 167, 168, 169, 170, 152, 153, 154, 155, 156, 157, 158, 159, 160, 161, 171, 172, 173, 174, 175, 176, 177, 178, 179, 180, 181, 182, 183, 184, 185, 186, 187, 188, 189, 190, 191, 192, 193, 194] (by decide +kernel) (by decide +kernel)
set_option maxRecDepth 20000 in
theorem gX10_tried_X7_followKeeping : GoodIn wsX10_tried (wsV RX10 199 RX7 yX7_followKeeping wsX7_followKeeping) := goodIn_app (goodIn_of _ (by decide +kernel)) ggX10_tried_X7_followKeeping
set_option maxRecDepth 20000 in
theorem ggX10_warmer_X7_begin : GoodIn wsX10_warmer wsX7_begin := goodIn_r _ [31, 32, 33, 34, 35, 36, 37, 38, 166, 167, 168, 169, 170, 171, 172, 173, 174] (by decide +kernel) (by decide +kernel)
set_option maxRecDepth 20000 in
theorem gX10_warmer_X7_begin : GoodIn wsX10_warmer (wsV RX10 195 RX7 yX7_begin wsX7_begin) := goodIn_app (goodIn_of _ (by decide +kernel)) ggX10_warmer_X7_begin
set_option maxRecDepth 20000 in
theorem ggX10_warmer_X7_followKeeping : GoodIn wsX10_warmer wsX7_followKeeping := goodIn_r _ [42, 43, 44, 45, 46, 34, 47, 48, 49, 50, 51, 52, 53, 54, 55, 56, 30, 57, 58, 59, 33, 35, 36, 38, 32, 60, 61, 62, 63, 64, 65, 66, 67, 68, 69, 70, 71, 72, 73, 74, 75, 76, 77, 78, 79, 80, 81, 82, 83, 84, 85, 86, 87, 88, 89, 90, 91, 92, 93, 37, 94, 95, 96, 97, 98, 99, 100, 101, 102, 103, 104, 105, 106, 107, 108, 109, 110, 111, 112, 113, 114, 115, 116, 117, 118, 119, 120, 121, 122, 123, 124, 125, 126, 127, 128, 129, 130, 131, 132, 133, 134, 135, 136, 137, 14, 138, 139, 140, 141, 142, 166, 167, 168, 169, 170, 171, 172, 173, 174, 156, 157, 158, 159, 160, 161, 162, 163, 164, 165, 175, 176, 177, 178, 179, 180, 181, 182, 183, 184, 185, 186, 187, 188, 189, 190, 191, 192, 193, 194, 195, 196, 197, 198] (by decide +kernel) (by decide +kernel)
set_option maxRecDepth 20000 in
theorem gX10_warmer_X7_followKeeping : GoodIn wsX10_warmer (wsV RX10 199 RX7 yX7_followKeeping wsX7_followKeeping) := goodIn_app (goodIn_of _ (by decide +kernel)) ggX10_warmer_X7_followKeeping

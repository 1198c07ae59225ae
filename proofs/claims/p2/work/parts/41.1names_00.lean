set_option maxRecDepth 20000 in
theorem ggX10_ahead_X0_step : GoodIn wsX10_ahead wsX0_step := goodIn_r _ [44, 45, 46, 47, 48, 49, 50, 51, 32, 52, 53, 34, 54, 55, 56, 43, 57, 58, 59, 60, 61, 62, 63, 64, 65, 66, 67, 68, 69, 70, 71, 72, 73, 74, 75, 76, 77, 78, 17, 79, 20, 80, 81, 82, 83, 39, 84, 85, 86, 87, 88, 89, 90, 91, 92, 93, 94, 95, 96, 97, 98, 99, 100, 101, 27, 102, 103, 104, 105, 106, 107, 108, 109, 110, 111, 112, 113, 114, 115, 116, 117, 118, 119, 120, 121, 122, 123, 124, 125, 126, 127, 128, 129, 130, 131, 132, 133, 134, 135, 136, 137, 138, 139, 140, 7, 141, 142, 143, 144, 145, 146, 147, 148, 149, 150, 151, 152, 153, 154, 21, 155, 156, 157, 158, 159, 19, 160, 161, 162, 163, 164, 165, 166, 167, 168, 28, 169, 170, 171, 172, 173, 174, 175, 176, 177, 178, 179, 180, 181, 182, 183, 184, 185, 186, 187, 188, 189, 216, 217, 218, 219, 220, 221, 222, 223, 224, 225, 226, 227, 228, 229, 230, 231, 232, 233, 234, 235, 236, 237, 238, 239, 240, 241, 242, 243, 244, 245, 246, 247, 248, 249, 250] (by decide +kernel) (by decide +kernel)
set_option maxRecDepth 20000 in
theorem gX10_ahead_X0_step : GoodIn wsX10_ahead (wsV RX10 165 RX0 yX0_step wsX0_step) := goodIn_app (goodIn_of _ (by decide +kernel)) ggX10_ahead_X0_step
set_option maxRecDepth 20000 in
theorem ggX10_ahead_X10_within : GoodIn wsX10_ahead wsX10_within := goodIn_r _ [13] (by decide +kernel) (by decide +kernel)
set_option maxRecDepth 20000 in
theorem gX10_ahead_X10_within : GoodIn wsX10_ahead (va_wsS RX10 79 yX10_within wsX10_within) := goodIn_app (goodIn_of _ (by decide +kernel)) ggX10_ahead_X10_within
set_option maxRecDepth 20000 in
theorem ggX10_ahead_X9_copyFrom : GoodIn wsX10_ahead wsX9_copyFrom := goodIn_r _ [18, 19, 20, 21, 22, 23, 24, 25, 26, 27, 28, 29, 30, 31, 32, 33, 34, 35, 36, 37, 38, 39, 216, 217, 218, 219, 220, 221, 222, 223, 224, 225, 226, 227, 228] (by decide +kernel) (by decide +kernel)
set_option maxRecDepth 20000 in
theorem gX10_ahead_X9_copyFrom : GoodIn wsX10_ahead (wsV RX10 295 RX9 yX9_copyFrom wsX9_copyFrom) := goodIn_app (goodIn_of _ (by decide +kernel)) ggX10_ahead_X9_copyFrom
set_option maxRecDepth 20000 in
theorem ggX10_ahead_X9_dropsOfAll : GoodIn wsX10_ahead wsX9_dropsOfAll := goodIn_r _ [193, 21, 194, 19, 84, 50, 51, 32, 52, 53, 34, 216, 217, 218, 219, 220, 221, 222, 223, 224, 225, 226, 227, 228] (by decide +kernel) (by decide +kernel)
set_option maxRecDepth 20000 in
theorem gX10_ahead_X9_dropsOfAll : GoodIn wsX10_ahead (wsV RX10 298 RX9 yX9_dropsOfAll wsX9_dropsOfAll) := goodIn_app (goodIn_of _ (by decide +kernel)) ggX10_ahead_X9_dropsOfAll
set_option maxRecDepth 20000 in
theorem ggX10_ahead_X9_jarsThatAre : GoodIn wsX10_ahead wsX9_jarsThatAre := goodIn_r _ [198, 21, 194, 199, 200, 201, 17, 202, 84, 50, 51, 32, 52, 53, 34, 216, 217, 218, 219, 220, 221, 222, 223, 224, 225, 226, 227, 228] (by decide +kernel) (by decide +kernel)
set_option maxRecDepth 20000 in
theorem gX10_ahead_X9_jarsThatAre : GoodIn wsX10_ahead (wsV RX10 301 RX9 yX9_jarsThatAre wsX9_jarsThatAre) := goodIn_app (goodIn_of _ (by decide +kernel)) ggX10_ahead_X9_jarsThatAre
set_option maxRecDepth 20000 in
theorem ggX10_all_X10_within : GoodIn wsX10_all wsX10_within := goodIn_r _ [17] (by decide +kernel) (by decide +kernel)
set_option maxRecDepth 20000 in
theorem gX10_all_X10_within : GoodIn wsX10_all (va_wsS RX10 79 yX10_within wsX10_within) := goodIn_app (goodIn_of _ (by decide +kernel)) ggX10_all_X10_within
set_option maxRecDepth 20000 in
theorem ggX10_all_X3_choose : GoodIn wsX10_all wsX3_choose := goodIn_r _ [203, 204, 205, 206, 207, 208, 209, 210, 211, 21, 212, 213, 214, 215, 216, 217, 51, 52, 47, 53, 54, 55, 218, 219, 220, 221, 23, 222, 223, 224, 225, 226, 227, 228, 229, 230, 231, 232, 264, 265, 266, 267, 251, 252, 253, 254, 255, 256, 257, 258, 259, 260, 261, 262, 263] (by decide +kernel) (by decide +kernel)
set_option maxRecDepth 20000 in
theorem gX10_all_X3_choose : GoodIn wsX10_all (wsV RX10 276 RX3 yX3_choose wsX3_choose) := goodIn_app (goodIn_of _ (by decide +kernel)) ggX10_all_X3_choose
set_option maxRecDepth 20000 in
theorem ggX10_all_X3_jarFor : GoodIn wsX10_all wsX3_jarFor := goodIn_r _ [236, 205, 206, 208, 237, 45, 46, 47, 48, 49, 264, 265, 266, 267, 251, 252, 253, 254, 255, 256, 257, 258, 259, 260, 261, 262, 263] (by decide +kernel) (by decide +kernel)
set_option maxRecDepth 20000 in
theorem gX10_all_X3_jarFor : GoodIn wsX10_all (wsV RX10 282 RX3 yX3_jarFor wsX3_jarFor) := goodIn_app (goodIn_of _ (by decide +kernel)) ggX10_all_X3_jarFor
set_option maxRecDepth 20000 in
theorem ggX10_all_X3_offer : GoodIn wsX10_all wsX3_offer := goodIn_r _ [199, 23, 264, 265, 266, 267] (by decide +kernel) (by decide +kernel)
set_option maxRecDepth 20000 in
theorem gX10_all_X3_offer : GoodIn wsX10_all (wsV RX10 273 RX3 yX3_offer wsX3_offer) := goodIn_app (goodIn_of _ (by decide +kernel)) ggX10_all_X3_offer
set_option maxRecDepth 20000 in
theorem ggX10_all_X3_open : GoodIn wsX10_all wsX3_open := goodIn_r _ [22, 23, 264, 265, 266, 267] (by decide +kernel) (by decide +kernel)
set_option maxRecDepth 20000 in
theorem gX10_all_X3_open : GoodIn wsX10_all (wsV RX10 270 RX3 yX3_open wsX3_open) := goodIn_app (goodIn_of _ (by decide +kernel)) ggX10_all_X3_open
set_option maxRecDepth 20000 in
theorem ggX10_all_X5_leftFor : GoodIn wsX10_all wsX5_leftFor := goodIn_r _ [28, 29, 30, 31, 32, 33, 34, 35, 36, 37, 38, 39, 40, 41, 42, 43, 44, 45, 46, 47, 48, 49, 50, 51, 52, 53, 54, 55, 56, 57, 58, 59, 27, 60, 61, 62, 63, 64, 65, 66, 67, 68, 69, 70, 71, 72, 73, 74, 75, 76, 77, 78, 79, 80, 81, 82, 83, 84, 85, 86, 87, 88, 89, 90, 91, 92, 93, 94, 95, 96, 97, 98, 99, 100, 101, 102, 103, 104, 105, 106, 107, 108, 109, 110, 111, 112, 113, 114, 115, 116, 117, 118, 119, 120, 121, 122, 123, 124, 125, 126, 127, 128, 129, 130, 131, 132, 133, 134, 135, 136, 137, 138, 139, 140, 141, 142, 143, 144, 145, 146, 147, 148, 149, 150, 151, 152, 153, 154, 155, 156, 157, 158, 159, 160, 161, 162, 163, 164, 165, 166, 167, 168, 169, 170, 171, 172, 173, 174, 175, 176, 177, 178, 179, 180, 181, 182, 183, 184, 185, 186, 187, 188, 189, 190, 11, 191, 192, 193, 194, 195, 268, 269, 270, 271, 272, 273, 274, 275, 276, 277, 278, 279, 280, 251, 252, 253, 254, 255, 256, 257, 258, 259, 260, 281, 282, 283, 284, 285, 286, 287, 288, 289, 261, 262, 263, 290, 291, 292, 293, 294, 295, 296, 297, 298, 299, 300, 301, 302, 303, 304, 305, 306, 307, 308, 309, 310] (by decide +kernel) (by decide +kernel)
set_option maxRecDepth 20000 in
theorem gX10_all_X5_leftFor : GoodIn wsX10_all (wsV RX10 266 RX5 yX5_leftFor wsX5_leftFor) := goodIn_app (goodIn_of _ (by decide +kernel)) ggX10_all_X5_leftFor
set_option maxRecDepth 20000 in
theorem ggX10_best_X10_isJourney : GoodIn wsX10_best wsX10_isJourney := goodIn_r _ [19, 20, 21, 22, 23, 24, 25, 26, 27, 198, 199, 200, 201, 202, 203, 204, 205, 206, 207, 208, 209, 210, 224, 225, 226, 227, 228, 229, 230, 231, 232, 233, 234, 235, 236] (by decide +kernel) (by decide +kernel)
set_option maxRecDepth 20000 in
theorem gX10_best_X10_isJourney : GoodIn wsX10_best (wsV RX10 208 RX10 yX10_isJourney wsX10_isJourney) := goodIn_app (goodIn_of _ (by decide +kernel)) ggX10_best_X10_isJourney
set_option maxRecDepth 20000 in
theorem ggX10_best_X10_isLoad : GoodIn wsX10_best wsX10_isLoad := goodIn_r _ [30, 31, 13, 14, 9, 15, 32, 33, 34] (by decide +kernel) (by decide +kernel)
set_option maxRecDepth 20000 in
theorem gX10_best_X10_isLoad : GoodIn wsX10_best (va_wsS RX10 191 yX10_isLoad wsX10_isLoad) := goodIn_app (goodIn_of _ (by decide +kernel)) ggX10_best_X10_isLoad
set_option maxRecDepth 20000 in
theorem ggX10_best_X10_within : GoodIn wsX10_best wsX10_within := goodIn_r _ [15] (by decide +kernel) (by decide +kernel)
set_option maxRecDepth 20000 in
theorem gX10_best_X10_within : GoodIn wsX10_best (va_wsS RX10 79 yX10_within wsX10_within) := goodIn_app (goodIn_of _ (by decide +kernel)) ggX10_best_X10_within
set_option maxRecDepth 20000 in
theorem ggX10_best_X5_aim : GoodIn wsX10_best wsX5_aim := goodIn_r _ [39, 40, 41, 42, 43, 44, 45, 46, 47, 48, 49, 50, 51, 38, 52, 53, 54, 55, 56, 57, 58, 59, 60, 61, 62, 63, 25, 64, 65, 66, 67, 68, 69, 70, 71, 72, 73, 74, 211, 212, 213, 214, 215, 216, 217, 218, 219, 220, 221, 222, 223, 224, 225, 226, 227, 228, 229, 230, 231, 232, 233, 234, 235, 236] (by decide +kernel) (by decide +kernel)
set_option maxRecDepth 20000 in
theorem gX10_best_X5_aim : GoodIn wsX10_best (wsV RX10 211 RX5 yX5_aim wsX5_aim) := goodIn_app (goodIn_of _ (by decide +kernel)) ggX10_best_X5_aim
set_option maxRecDepth 20000 in
theorem ggX10_best_X5_findBest : GoodIn wsX10_best wsX5_findBest := goodIn_r _ [90, 91, 92, 93, 47, 94, 95, 96, 38, 97, 45, 44, 40, 54, 55, 56, 41, 98, 99, 100, 101, 102, 42, 103, 104, 46, 48, 105, 106, 107, 108, 109, 110, 111, 112, 23, 24, 25, 26, 27, 113, 62, 63, 64, 65, 66, 67, 68, 69, 70, 53, 43, 114, 115, 116, 78, 117, 118, 119, 120, 81, 82, 83, 84, 86, 80, 121, 122, 123, 124, 125, 126, 127, 128, 129, 130, 131, 132, 133, 134, 135, 136, 137, 138, 139, 140, 141, 142, 143, 144, 85, 145, 146, 147, 148, 149, 150, 151, 152, 153, 154, 155, 156, 157, 158, 159, 160, 161, 162, 163, 164, 165, 166, 167, 168, 169, 170, 171, 172, 173, 174, 175, 176, 177, 178, 179, 180, 181, 182, 183, 184, 185, 186, 187, 188, 9, 189, 190, 191, 192, 193, 211, 212, 213, 214, 215, 216, 217, 218, 219, 220, 221, 222, 223, 237, 238, 239, 240, 241, 242, 243, 244, 245, 224, 225, 226, 227, 228, 229, 230, 231, 232, 233, 234, 235, 236, 246, 247, 248, 249, 250, 251, 252, 253, 254, 255, 256, 257, 258, 259, 260, 261, 262, 263, 264, 265, 266] (by decide +kernel) (by decide +kernel)
set_option maxRecDepth 20000 in
theorem gX10_best_X5_findBest : GoodIn wsX10_best (wsV RX10 214 RX5 yX5_findBest wsX5_findBest) := goodIn_app (goodIn_of _ (by decide +kernel)) ggX10_best_X5_findBest
set_option maxRecDepth 20000 in
theorem ggX10_best_X5_passOf : GoodIn wsX10_best wsX5_passOf := goodIn_r _ [197, 48, 105, 211, 212, 213, 214, 215, 216, 217, 218, 219, 220, 221, 222, 223] (by decide +kernel) (by decide +kernel)
set_option maxRecDepth 20000 in
theorem gX10_best_X5_passOf : GoodIn wsX10_best (wsV RX10 226 RX5 yX5_passOf wsX5_passOf) := goodIn_app (goodIn_of _ (by decide +kernel)) ggX10_best_X5_passOf

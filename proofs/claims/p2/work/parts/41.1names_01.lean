set_option maxRecDepth 20000 in
theorem ggX10_best_X7_begin : GoodIn wsX10_best wsX7_begin := goodIn_r _ [79, 80, 81, 82, 83, 84, 85, 86, 237, 238, 239, 240, 241, 242, 243, 244, 245] (by decide +kernel) (by decide +kernel)
set_option maxRecDepth 20000 in
theorem gX10_best_X7_begin : GoodIn wsX10_best (wsV RX10 195 RX7 yX7_begin wsX7_begin) := goodIn_app (goodIn_of _ (by decide +kernel)) ggX10_best_X7_begin
set_option maxRecDepth 20000 in
theorem ggX10_enough_X0_lasts : GoodIn wsX10_enough wsX0_lasts := goodIn_r _ [25, 26, 27, 28, 29, 24, 30, 31, 32, 33, 34, 35, 18, 36, 37, 38, 39, 40, 41, 42, 43, 44, 45, 46, 47, 48, 49, 50, 51, 52, 53, 54, 55, 56, 57, 58, 59, 60, 61, 62, 63, 64, 65, 66, 67, 68, 69, 70, 71, 72, 73, 74, 75, 76, 77, 78, 79, 80, 81, 82, 83, 84, 85, 86, 87, 88, 89, 90, 91, 92, 93, 94, 95, 96, 97, 98, 99, 100, 101, 8, 102, 116, 117, 118, 119, 120, 121, 122, 123, 124, 125, 126, 127, 128, 129, 130, 131, 132, 133, 134, 135, 136, 137, 138, 139, 140, 141, 142, 143, 144, 145, 146, 147, 148, 149, 150] (by decide +kernel) (by decide +kernel)
set_option maxRecDepth 20000 in
theorem gX10_enough_X0_lasts : GoodIn wsX10_enough (wsV RX10 288 RX0 yX0_lasts wsX0_lasts) := goodIn_app (goodIn_of _ (by decide +kernel)) ggX10_enough_X0_lasts
set_option maxRecDepth 20000 in
theorem ggX10_enough_X10_within : GoodIn wsX10_enough wsX10_within := goodIn_r _ [14] (by decide +kernel) (by decide +kernel)
set_option maxRecDepth 20000 in
theorem gX10_enough_X10_within : GoodIn wsX10_enough (va_wsS RX10 79 yX10_within wsX10_within) := goodIn_app (goodIn_of _ (by decide +kernel)) ggX10_enough_X10_within
set_option maxRecDepth 20000 in
theorem ggX10_enough_X6_has : GoodIn wsX10_enough wsX6_has := goodIn_r _ [19, 20, 126, 127, 128] (by decide +kernel) (by decide +kernel)
set_option maxRecDepth 20000 in
theorem gX10_enough_X6_has : GoodIn wsX10_enough (wsV RX10 97 RX6 yX6_has wsX6_has) := goodIn_app (goodIn_of _ (by decide +kernel)) ggX10_enough_X6_has
set_option maxRecDepth 20000 in
theorem ggX10_guess_X10_isLoad : GoodIn wsX10_guess wsX10_isLoad := goodIn_r _ [26, 1, 15, 16, 11, 17, 27, 28, 29] (by decide +kernel) (by decide +kernel)
set_option maxRecDepth 20000 in
theorem gX10_guess_X10_isLoad : GoodIn wsX10_guess (va_wsS RX10 191 yX10_isLoad wsX10_isLoad) := goodIn_app (goodIn_of _ (by decide +kernel)) ggX10_guess_X10_isLoad
set_option maxRecDepth 20000 in
theorem ggX10_guess_X7_begin : GoodIn wsX10_guess wsX7_begin := goodIn_r _ [34, 35, 36, 37, 38, 39, 40, 41, 213, 214, 215, 216, 217, 218, 219, 220, 221] (by decide +kernel) (by decide +kernel)
set_option maxRecDepth 20000 in
theorem gX10_guess_X7_begin : GoodIn wsX10_guess (wsV RX10 195 RX7 yX7_begin wsX7_begin) := goodIn_app (goodIn_of _ (by decide +kernel)) ggX10_guess_X7_begin
set_option maxRecDepth 20000 in
theorem ggX10_guess_X8_fewestAt : GoodIn wsX10_guess wsX8_fewestAt := goodIn_r _ [175, 55, 203, 204, 205, 206, 207, 208, 209] (by decide +kernel) (by decide +kernel)
set_option maxRecDepth 20000 in
theorem gX10_guess_X8_fewestAt : GoodIn wsX10_guess (wsV RX10 254 RX8 yX8_fewestAt wsX8_fewestAt) := goodIn_app (goodIn_of _ (by decide +kernel)) ggX10_guess_X8_fewestAt
set_option maxRecDepth 20000 in
theorem ggX10_guess_X8_find : GoodIn wsX10_guess wsX8_find := goodIn_r _ [46, 47, 48, 49, 50, 51, 52, 53, 54, 55, 56, 57, 58, 59, 60, 61, 45, 62, 63, 64, 65, 66, 67, 68, 69, 70, 71, 72, 73, 74, 75, 76, 77, 21, 78, 79, 80, 81, 82, 83, 33, 84, 85, 86, 87, 36, 37, 38, 39, 41, 35, 88, 89, 90, 91, 92, 93, 94, 95, 19, 20, 22, 23, 96, 97, 98, 99, 100, 101, 102, 103, 104, 105, 106, 107, 108, 109, 110, 111, 112, 113, 114, 115, 116, 117, 118, 40, 119, 120, 121, 122, 123, 124, 125, 126, 127, 128, 129, 130, 131, 132, 133, 134, 135, 136, 137, 138, 139, 140, 141, 142, 143, 144, 145, 146, 147, 148, 149, 150, 151, 152, 153, 154, 155, 156, 157, 158, 159, 160, 161, 162, 11, 163, 164, 165, 166, 167, 168, 169, 170, 171, 203, 204, 205, 206, 207, 208, 209, 213, 214, 215, 216, 217, 218, 219, 220, 221, 193, 194, 195, 196, 197, 198, 199, 200, 201, 202, 210, 211, 212, 222, 223, 224, 225, 226, 227, 228, 229, 230, 231, 232, 233, 234, 235, 236, 237, 238, 239, 240, 241, 242] (by decide +kernel) (by decide +kernel)
set_option maxRecDepth 20000 in
theorem gX10_guess_X8_find : GoodIn wsX10_guess (wsV RX10 248 RX8 yX8_find wsX8_find) := goodIn_app (goodIn_of _ (by decide +kernel)) ggX10_guess_X8_find
set_option maxRecDepth 20000 in
theorem ggX10_guess_X8_mostAt : GoodIn wsX10_guess wsX8_mostAt := goodIn_r _ [179, 56, 203, 204, 205, 206, 207, 208, 209] (by decide +kernel) (by decide +kernel)
set_option maxRecDepth 20000 in
theorem gX10_guess_X8_mostAt : GoodIn wsX10_guess (wsV RX10 257 RX8 yX8_mostAt wsX8_mostAt) := goodIn_app (goodIn_of _ (by decide +kernel)) ggX10_guess_X8_mostAt
set_option maxRecDepth 20000 in
theorem ggX10_least_X0_lasts : GoodIn wsX10_least wsX0_lasts := goodIn_r _ [24, 25, 26, 27, 28, 23, 29, 30, 31, 32, 33, 34, 17, 35, 36, 37, 38, 39, 40, 41, 42, 43, 44, 45, 46, 47, 48, 49, 50, 51, 52, 53, 54, 55, 56, 57, 58, 59, 60, 61, 62, 63, 64, 65, 66, 67, 68, 69, 70, 71, 72, 73, 74, 75, 76, 77, 78, 79, 80, 81, 82, 83, 84, 85, 86, 87, 88, 89, 90, 91, 92, 93, 94, 95, 96, 97, 98, 99, 100, 7, 101, 115, 116, 117, 118, 119, 120, 121, 122, 123, 124, 125, 126, 127, 128, 129, 130, 131, 132, 133, 134, 135, 136, 137, 138, 139, 140, 141, 142, 143, 144, 145, 146, 147, 148, 149] (by decide +kernel) (by decide +kernel)
set_option maxRecDepth 20000 in
theorem gX10_least_X0_lasts : GoodIn wsX10_least (wsV RX10 288 RX0 yX0_lasts wsX0_lasts) := goodIn_app (goodIn_of _ (by decide +kernel)) ggX10_least_X0_lasts
set_option maxRecDepth 20000 in
theorem ggX10_least_X6_has : GoodIn wsX10_least wsX6_has := goodIn_r _ [18, 19, 125, 126, 127] (by decide +kernel) (by decide +kernel)
set_option maxRecDepth 20000 in
theorem gX10_least_X6_has : GoodIn wsX10_least (wsV RX10 97 RX6 yX6_has wsX6_has) := goodIn_app (goodIn_of _ (by decide +kernel)) ggX10_least_X6_has
set_option maxRecDepth 20000 in
theorem ggX10_melt_X0_meltOf : GoodIn wsX10_melt wsX0_meltOf := goodIn_r _ [30, 31, 32, 33, 34, 35, 21, 22, 17, 23, 24, 25, 36, 37, 38, 39, 40, 41, 42, 43, 44, 45, 46, 47, 48, 49, 50, 51, 52, 53, 15, 16, 18, 19, 54, 55, 56, 57, 58, 59, 60, 61, 62, 63, 64, 65, 66, 67, 68, 69, 70, 71, 72, 73, 74, 75, 29, 76, 77, 78, 79, 80, 81, 82, 83, 84, 85, 86, 87, 88, 89, 90, 91, 92, 93, 94, 95, 96, 97, 98, 99, 100, 101, 102, 103, 104, 105, 106, 107, 108, 109, 110, 111, 7, 112, 126, 127, 128, 129, 130, 131, 132, 133, 134, 135, 139, 140, 141, 142, 143, 136, 137, 138, 144, 145, 146, 147, 148, 149, 150, 151, 152, 153, 154, 155, 156, 157, 158, 159, 160] (by decide +kernel) (by decide +kernel)
set_option maxRecDepth 20000 in
theorem gX10_melt_X0_meltOf : GoodIn wsX10_melt (wsV RX10 172 RX0 yX0_meltOf wsX0_meltOf) := goodIn_app (goodIn_of _ (by decide +kernel)) ggX10_melt_X0_meltOf
set_option maxRecDepth 20000 in
theorem ggX10_melt_X6_get : GoodIn wsX10_melt wsX6_get := goodIn_r _ [23, 24, 25, 136, 137, 138] (by decide +kernel) (by decide +kernel)
set_option maxRecDepth 20000 in
theorem gX10_melt_X6_get : GoodIn wsX10_melt (wsV RX10 150 RX6 yX6_get wsX6_get) := goodIn_app (goodIn_of _ (by decide +kernel)) ggX10_melt_X6_get
set_option maxRecDepth 20000 in
theorem ggX10_melt_X6_has : GoodIn wsX10_melt wsX6_has := goodIn_r _ [18, 19, 136, 137, 138] (by decide +kernel) (by decide +kernel)
set_option maxRecDepth 20000 in
theorem gX10_melt_X6_has : GoodIn wsX10_melt (wsV RX10 97 RX6 yX6_has wsX6_has) := goodIn_app (goodIn_of _ (by decide +kernel)) ggX10_melt_X6_has
set_option maxRecDepth 20000 in
theorem ggX10_nights_X6_get : GoodIn wsX10_nights wsX6_get := goodIn_r _ [29, 30, 31, 179, 180, 181] (by decide +kernel) (by decide +kernel)
set_option maxRecDepth 20000 in
theorem gX10_nights_X6_get : GoodIn wsX10_nights (wsV RX10 150 RX6 yX6_get wsX6_get) := goodIn_app (goodIn_of _ (by decide +kernel)) ggX10_nights_X6_get
set_option maxRecDepth 20000 in
theorem ggX10_nights_X6_has : GoodIn wsX10_nights wsX6_has := goodIn_r _ [24, 25, 179, 180, 181] (by decide +kernel) (by decide +kernel)
set_option maxRecDepth 20000 in
theorem gX10_nights_X6_has : GoodIn wsX10_nights (wsV RX10 97 RX6 yX6_has wsX6_has) := goodIn_app (goodIn_of _ (by decide +kernel)) ggX10_nights_X6_has
set_option maxRecDepth 20000 in
theorem ggX10_nights_X7_begin : GoodIn wsX10_nights wsX7_begin := goodIn_r _ [36, 37, 38, 39, 40, 41, 42, 43, 170, 171, 172, 173, 174, 175, 176, 177, 178] (by decide +kernel) (by decide +kernel)
set_option maxRecDepth 20000 in
theorem gX10_nights_X7_begin : GoodIn wsX10_nights (wsV RX10 195 RX7 yX7_begin wsX7_begin) := goodIn_app (goodIn_of _ (by decide +kernel)) ggX10_nights_X7_begin
set_option maxRecDepth 20000 in
theorem ggX10_nights_X7_venture : GoodIn wsX10_nights wsX7_venture := goodIn_r _ [47, 48, 49, 50, 51, 52, 53, 39, 40, 41, 37, 54, 55, 27, 28, 23, 29, 30, 31, 56, 57, 58, 35, 59, 38, 43, 60, 61, 62, 63, 64, 65, 66, 21, 22, 24, 25, 67, 68, 69, 70, 71, 72, 73, 74, 75, 76, 77, 78, 79, 80, 81, 82, 83, 84, 85, 86, 87, 88, 42, 89, 90, 91, 92, 93, 94, 95, 96, 97, 98, 99, 100, 101, 102, 103, 104, 105, 106, 107, 108, 109, 110, 111, 112, 113, 114, 115, 116, 117, 118, 119, 120, 121, 122, 123, 124, 125, 126, 127, 128, 129, 130, 131, 132, 13, 133, 134, 135, 136, 137, 138, 139, 140, 141, 142, 143, 144, 145, 146, 170, 171, 172, 173, 174, 175, 176, 177, 178, 160, 161, 162, 163, 164, 165, 166, 167, 168, 169, 179, 180, 181, 182, 183, 184, 185, 186, 187, 188, 189, 190, 191, 192, 193, 194, 195, 196, 197, 198, 199, 200, 201, 202] (by decide +kernel) (by decide +kernel)
set_option maxRecDepth 20000 in
theorem gX10_nights_X7_venture : GoodIn wsX10_nights (wsV RX10 292 RX7 yX7_venture wsX7_venture) := goodIn_app (goodIn_of _ (by decide +kernel)) ggX10_nights_X7_venture
set_option maxRecDepth 20000 in
theorem ggX10_price_X10_isJourney : GoodIn wsX10_price wsX10_isJourney := goodIn_r _ [19, 1, 20, 21, 22, 23, 24, 25, 26, 193, 194, 195, 196, 197, 198, 199, 200, 201, 202, 203, 204, 205, 206, 207, 208, 209, 210, 211, 212, 213, 214, 215, 229, 230, 231] (by decide +kernel) (by decide +kernel)
set_option maxRecDepth 20000 in
theorem gX10_price_X10_isJourney : GoodIn wsX10_price (wsV RX10 208 RX10 yX10_isJourney wsX10_isJourney) := goodIn_app (goodIn_of _ (by decide +kernel)) ggX10_price_X10_isJourney

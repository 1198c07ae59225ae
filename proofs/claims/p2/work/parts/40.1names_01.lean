set_option maxRecDepth 20000 in
theorem ggX10_lay_X9_otherEnd : GoodIn wsX10_lay wsX9_otherEnd := goodIn_r _ [22, 23, 24, 25, 26, 15, 27, 28, 12, 13, 14, 16, 17, 18, 55, 56, 57, 58, 59, 60, 61, 62, 63, 64, 65, 66, 67] (by decide +kernel) (by decide +kernel)
set_option maxRecDepth 20000 in
theorem gX10_lay_X9_otherEnd : GoodIn wsX10_lay (wsV RX10 158 RX9 yX9_otherEnd wsX9_otherEnd) := goodIn_app (goodIn_of _ (by decide +kernel)) ggX10_lay_X9_otherEnd
set_option maxRecDepth 20000 in
theorem ggX10_lay_X9_wayEnd : GoodIn wsX10_lay wsX9_wayEnd := goodIn_r _ [8, 9, 10, 11, 12, 13, 14, 15, 16, 17, 18, 19, 20, 21, 7, 22, 23, 24, 25, 26, 27, 28, 55, 56, 57, 58, 59, 60, 61, 62, 63, 64, 65, 66, 67] (by decide +kernel) (by decide +kernel)
set_option maxRecDepth 20000 in
theorem gX10_lay_X9_wayEnd : GoodIn wsX10_lay (wsV RX10 179 RX9 yX9_wayEnd wsX9_wayEnd) := goodIn_app (goodIn_of _ (by decide +kernel)) ggX10_lay_X9_wayEnd
set_option maxRecDepth 20000 in
theorem ggX10_lay_X9_wayHas : GoodIn wsX10_lay wsX9_wayHas := goodIn_r _ [33, 9, 10, 11, 12, 13, 14, 15, 16, 17, 18, 19, 20, 21, 7, 22, 23, 24, 25, 26, 27, 28, 55, 56, 57, 58, 59, 60, 61, 62, 63, 64, 65, 66, 67] (by decide +kernel) (by decide +kernel)
set_option maxRecDepth 20000 in
theorem gX10_lay_X9_wayHas : GoodIn wsX10_lay (wsV RX10 182 RX9 yX9_wayHas wsX9_wayHas) := goodIn_app (goodIn_of _ (by decide +kernel)) ggX10_lay_X9_wayHas
set_option maxRecDepth 20000 in
theorem ggX10_least_X10_lawOf : GoodIn wsX10_least wsX10_lawOf := goodIn_r _ [8, 9, 10, 11, 12, 7, 13, 102, 103, 104, 105, 106, 107, 108, 109, 110, 111, 112, 113, 114] (by decide +kernel) (by decide +kernel)
set_option maxRecDepth 20000 in
theorem gX10_least_X10_lawOf : GoodIn wsX10_least (wsV RX10 161 RX10 yX10_lawOf wsX10_lawOf) := goodIn_app (goodIn_of _ (by decide +kernel)) ggX10_least_X10_lawOf
set_option maxRecDepth 20000 in
theorem ggX10_leave_X6_put : GoodIn wsX10_leave wsX6_put := goodIn_r _ [29, 19, 20, 53, 54, 55] (by decide +kernel) (by decide +kernel)
set_option maxRecDepth 20000 in
theorem gX10_leave_X6_put : GoodIn wsX10_leave (wsV RX10 93 RX6 yX6_put wsX6_put) := goodIn_app (goodIn_of _ (by decide +kernel)) ggX10_leave_X6_put
set_option maxRecDepth 20000 in
theorem ggX10_leave_X9_nodeOf : GoodIn wsX10_leave wsX9_nodeOf := goodIn_r _ [7, 8, 9, 10, 11, 12, 13, 14, 15, 16, 17, 18, 19, 20, 43, 44, 45, 46, 47, 48, 49, 50, 51, 52, 53, 54, 55] (by decide +kernel) (by decide +kernel)
set_option maxRecDepth 20000 in
theorem gX10_leave_X9_nodeOf : GoodIn wsX10_leave (wsV RX10 136 RX9 yX9_nodeOf wsX9_nodeOf) := goodIn_app (goodIn_of _ (by decide +kernel)) ggX10_leave_X9_nodeOf
set_option maxRecDepth 20000 in
theorem ggX10_leave_X9_otherEnd : GoodIn wsX10_leave wsX9_otherEnd := goodIn_r _ [24, 25, 9, 10, 11, 12, 13, 14, 15, 16, 17, 18, 19, 20, 43, 44, 45, 46, 47, 48, 49, 50, 51, 52, 53, 54, 55] (by decide +kernel) (by decide +kernel)
set_option maxRecDepth 20000 in
theorem gX10_leave_X9_otherEnd : GoodIn wsX10_leave (wsV RX10 158 RX9 yX9_otherEnd wsX9_otherEnd) := goodIn_app (goodIn_of _ (by decide +kernel)) ggX10_leave_X9_otherEnd
set_option maxRecDepth 20000 in
theorem ggX10_melt_X10_lawOf : GoodIn wsX10_melt wsX10_lawOf := goodIn_r _ [8, 9, 10, 11, 12, 7, 13, 113, 114, 115, 116, 117, 118, 119, 120, 121, 122, 123, 124, 125] (by decide +kernel) (by decide +kernel)
set_option maxRecDepth 20000 in
theorem gX10_melt_X10_lawOf : GoodIn wsX10_melt (wsV RX10 161 RX10 yX10_lawOf wsX10_lawOf) := goodIn_app (goodIn_of _ (by decide +kernel)) ggX10_melt_X10_lawOf
set_option maxRecDepth 20000 in
theorem ggX10_nearest_X10_within : GoodIn wsX10_nearest wsX10_within := goodIn_r _ [15] (by decide +kernel) (by decide +kernel)
set_option maxRecDepth 20000 in
theorem gX10_nearest_X10_within : GoodIn wsX10_nearest (va_wsS RX10 79 yX10_within wsX10_within) := goodIn_app (goodIn_of _ (by decide +kernel)) ggX10_nearest_X10_within
set_option maxRecDepth 20000 in
theorem ggX10_nearest_X5_farTo : GoodIn wsX10_nearest wsX5_farTo := goodIn_r _ [39, 21, 22, 78, 79, 80, 81, 82, 83, 84, 85, 86, 87, 88, 89, 90] (by decide +kernel) (by decide +kernel)
set_option maxRecDepth 20000 in
theorem gX10_nearest_X5_farTo : GoodIn wsX10_nearest (wsV RX10 233 RX5 yX5_farTo wsX5_farTo) := goodIn_app (goodIn_of _ (by decide +kernel)) ggX10_nearest_X5_farTo
set_option maxRecDepth 20000 in
theorem ggX10_nearest_X5_measure : GoodIn wsX10_nearest wsX5_measure := goodIn_r _ [20, 21, 22, 23, 24, 25, 26, 27, 28, 19, 29, 30, 31, 32, 9, 33, 34, 35, 36, 37, 38, 39, 40, 41, 42, 43, 78, 79, 80, 81, 82, 83, 84, 85, 86, 87, 88, 89, 90, 65, 66, 67, 68, 69, 70, 71, 72, 73, 74, 75, 76, 77] (by decide +kernel) (by decide +kernel)
set_option maxRecDepth 20000 in
theorem gX10_nearest_X5_measure : GoodIn wsX10_nearest (wsV RX10 229 RX5 yX5_measure wsX5_measure) := goodIn_app (goodIn_of _ (by decide +kernel)) ggX10_nearest_X5_measure
set_option maxRecDepth 20000 in
theorem ggX10_nearest_X6_has : GoodIn wsX10_nearest wsX6_has := goodIn_r _ [10, 11, 75, 76, 77] (by decide +kernel) (by decide +kernel)
set_option maxRecDepth 20000 in
theorem gX10_nearest_X6_has : GoodIn wsX10_nearest (wsV RX10 97 RX6 yX6_has wsX6_has) := goodIn_app (goodIn_of _ (by decide +kernel)) ggX10_nearest_X6_has
set_option maxRecDepth 20000 in
theorem ggX10_nearest_X9_hasSnow : GoodIn wsX10_nearest wsX9_hasSnow := goodIn_r _ [48, 49, 50, 31, 32, 9, 33, 34, 35, 65, 66, 67, 68, 69, 70, 71, 72, 73, 74, 75, 76, 77] (by decide +kernel) (by decide +kernel)
set_option maxRecDepth 20000 in
theorem gX10_nearest_X9_hasSnow : GoodIn wsX10_nearest (wsV RX10 147 RX9 yX9_hasSnow wsX9_hasSnow) := goodIn_app (goodIn_of _ (by decide +kernel)) ggX10_nearest_X9_hasSnow
set_option maxRecDepth 20000 in
theorem ggX10_nights_X10_lawOf : GoodIn wsX10_nights wsX10_lawOf := goodIn_r _ [14, 15, 16, 17, 18, 13, 19, 147, 148, 149, 150, 151, 152, 153, 154, 155, 156, 157, 158, 159] (by decide +kernel) (by decide +kernel)
set_option maxRecDepth 20000 in
theorem gX10_nights_X10_lawOf : GoodIn wsX10_nights (wsV RX10 161 RX10 yX10_lawOf wsX10_lawOf) := goodIn_app (goodIn_of _ (by decide +kernel)) ggX10_nights_X10_lawOf
set_option maxRecDepth 20000 in
theorem ggX10_nights_X10_within : GoodIn wsX10_nights wsX10_within := goodIn_r _ [19] (by decide +kernel) (by decide +kernel)
set_option maxRecDepth 20000 in
theorem gX10_nights_X10_within : GoodIn wsX10_nights (va_wsS RX10 79 yX10_within wsX10_within) := goodIn_app (goodIn_of _ (by decide +kernel)) ggX10_nights_X10_within
set_option maxRecDepth 20000 in
theorem ggX10_of_X10_within : GoodIn wsX10_of wsX10_within := goodIn_r _ [12] (by decide +kernel) (by decide +kernel)
set_option maxRecDepth 20000 in
theorem gX10_of_X10_within : GoodIn wsX10_of (va_wsS RX10 79 yX10_within wsX10_within) := goodIn_app (goodIn_of _ (by decide +kernel)) ggX10_of_X10_within
set_option maxRecDepth 20000 in
theorem ggX10_of_X6_get : GoodIn wsX10_of wsX6_get := goodIn_r _ [16, 17, 18, 42, 43, 44] (by decide +kernel) (by decide +kernel)
set_option maxRecDepth 20000 in
theorem gX10_of_X6_get : GoodIn wsX10_of (wsV RX10 150 RX6 yX6_get wsX6_get) := goodIn_app (goodIn_of _ (by decide +kernel)) ggX10_of_X6_get
set_option maxRecDepth 20000 in
theorem ggX10_of_X6_has : GoodIn wsX10_of wsX6_has := goodIn_r _ [7, 8, 42, 43, 44] (by decide +kernel) (by decide +kernel)
set_option maxRecDepth 20000 in
theorem gX10_of_X6_has : GoodIn wsX10_of (wsV RX10 97 RX6 yX6_has wsX6_has) := goodIn_app (goodIn_of _ (by decide +kernel)) ggX10_of_X6_has
set_option maxRecDepth 20000 in
theorem ggX10_pour_X6_get : GoodIn wsX10_pour wsX6_get := goodIn_r _ [18, 19, 20, 60, 61, 62] (by decide +kernel) (by decide +kernel)
set_option maxRecDepth 20000 in
theorem gX10_pour_X6_get : GoodIn wsX10_pour (wsV RX10 150 RX6 yX6_get wsX6_get) := goodIn_app (goodIn_of _ (by decide +kernel)) ggX10_pour_X6_get
set_option maxRecDepth 20000 in
theorem ggX10_pour_X6_put : GoodIn wsX10_pour wsX6_put := goodIn_r _ [35, 19, 20, 60, 61, 62] (by decide +kernel) (by decide +kernel)
set_option maxRecDepth 20000 in
theorem gX10_pour_X6_put : GoodIn wsX10_pour (wsV RX10 93 RX6 yX6_put wsX6_put) := goodIn_app (goodIn_of _ (by decide +kernel)) ggX10_pour_X6_put
set_option maxRecDepth 20000 in
theorem ggX10_pour_X9_bring : GoodIn wsX10_pour wsX9_bring := goodIn_r _ [25, 26, 27, 28, 29, 30, 31, 15, 16, 17, 12, 18, 19, 20, 32, 33, 34, 35, 50, 51, 52, 53, 54, 55, 56, 57, 58, 59, 60, 61, 62] (by decide +kernel) (by decide +kernel)
set_option maxRecDepth 20000 in
theorem gX10_pour_X9_bring : GoodIn wsX10_pour (wsV RX10 154 RX9 yX9_bring wsX9_bring) := goodIn_app (goodIn_of _ (by decide +kernel)) ggX10_pour_X9_bring
set_option maxRecDepth 20000 in
theorem ggX10_pour_X9_nodeOf : GoodIn wsX10_pour wsX9_nodeOf := goodIn_r _ [7, 8, 9, 10, 11, 12, 13, 14, 15, 16, 17, 18, 19, 20, 50, 51, 52, 53, 54, 55, 56, 57, 58, 59, 60, 61, 62] (by decide +kernel) (by decide +kernel)
set_option maxRecDepth 20000 in
theorem gX10_pour_X9_nodeOf : GoodIn wsX10_pour (wsV RX10 136 RX9 yX9_nodeOf wsX9_nodeOf) := goodIn_app (goodIn_of _ (by decide +kernel)) ggX10_pour_X9_nodeOf
set_option maxRecDepth 20000 in
theorem ggX10_price_X10_lawOf : GoodIn wsX10_price wsX10_lawOf := goodIn_r _ [10, 11, 12, 13, 14, 9, 15, 193, 194, 195, 196, 197, 198, 199, 200, 201, 202, 203, 204, 205] (by decide +kernel) (by decide +kernel)
set_option maxRecDepth 20000 in
theorem gX10_price_X10_lawOf : GoodIn wsX10_price (wsV RX10 161 RX10 yX10_lawOf wsX10_lawOf) := goodIn_app (goodIn_of _ (by decide +kernel)) ggX10_price_X10_lawOf
set_option maxRecDepth 20000 in
theorem ggX10_serves_X10_lawOf : GoodIn wsX10_serves wsX10_lawOf := goodIn_r _ [9, 10, 11, 12, 13, 8, 14, 188, 189, 190, 191, 192, 193, 194, 195, 196, 197, 198, 199, 200] (by decide +kernel) (by decide +kernel)
set_option maxRecDepth 20000 in
theorem gX10_serves_X10_lawOf : GoodIn wsX10_serves (wsV RX10 161 RX10 yX10_lawOf wsX10_lawOf) := goodIn_app (goodIn_of _ (by decide +kernel)) ggX10_serves_X10_lawOf
set_option maxRecDepth 20000 in
theorem ggX10_soonest_X5_farTo : GoodIn wsX10_soonest wsX5_farTo := goodIn_r _ [34, 16, 17, 66, 67, 68, 69, 70, 71, 72, 73, 74, 75, 76, 77, 78] (by decide +kernel) (by decide +kernel)
set_option maxRecDepth 20000 in
theorem gX10_soonest_X5_farTo : GoodIn wsX10_soonest (wsV RX10 233 RX5 yX5_farTo wsX5_farTo) := goodIn_app (goodIn_of _ (by decide +kernel)) ggX10_soonest_X5_farTo
set_option maxRecDepth 20000 in
theorem ggX10_soonest_X5_measure : GoodIn wsX10_soonest wsX5_measure := goodIn_r _ [15, 16, 17, 18, 19, 20, 21, 22, 23, 14, 24, 25, 26, 27, 8, 28, 29, 30, 31, 32, 33, 34, 35, 36, 37, 38, 66, 67, 68, 69, 70, 71, 72, 73, 74, 75, 76, 77, 78, 53, 54, 55, 56, 57, 58, 59, 60, 61, 62, 63, 64, 65] (by decide +kernel) (by decide +kernel)
set_option maxRecDepth 20000 in
theorem gX10_soonest_X5_measure : GoodIn wsX10_soonest (wsV RX10 229 RX5 yX5_measure wsX5_measure) := goodIn_app (goodIn_of _ (by decide +kernel)) ggX10_soonest_X5_measure

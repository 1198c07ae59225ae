set_option maxRecDepth 20000 in
theorem ggX10_ahead_X10_lawOf : GoodIn wsX10_ahead wsX10_lawOf := goodIn_r _ [8, 9, 10, 11, 12, 7, 13, 203, 204, 205, 206, 207, 208, 209, 210, 211, 212, 213, 214, 215] (by decide +kernel) (by decide +kernel)
set_option maxRecDepth 20000 in
theorem gX10_ahead_X10_lawOf : GoodIn wsX10_ahead (wsV RX10 161 RX10 yX10_lawOf wsX10_lawOf) := goodIn_app (goodIn_of _ (by decide +kernel)) ggX10_ahead_X10_lawOf
set_option maxRecDepth 20000 in
theorem ggX10_all_X10_lawOf : GoodIn wsX10_all wsX10_lawOf := goodIn_r _ [12, 13, 14, 15, 16, 11, 17, 238, 239, 240, 241, 242, 243, 244, 245, 246, 247, 248, 249, 250] (by decide +kernel) (by decide +kernel)
set_option maxRecDepth 20000 in
theorem gX10_all_X10_lawOf : GoodIn wsX10_all (wsV RX10 161 RX10 yX10_lawOf wsX10_lawOf) := goodIn_app (goodIn_of _ (by decide +kernel)) ggX10_all_X10_lawOf
set_option maxRecDepth 20000 in
theorem ggX10_at_X10_within : GoodIn wsX10_at wsX10_within := goodIn_r _ [13] (by decide +kernel) (by decide +kernel)
set_option maxRecDepth 20000 in
theorem gX10_at_X10_within : GoodIn wsX10_at (va_wsS RX10 79 yX10_within wsX10_within) := goodIn_app (goodIn_of _ (by decide +kernel)) ggX10_at_X10_within
set_option maxRecDepth 20000 in
theorem ggX10_at_X6_get : GoodIn wsX10_at wsX6_get := goodIn_r _ [17, 18, 19, 61, 62, 63] (by decide +kernel) (by decide +kernel)
set_option maxRecDepth 20000 in
theorem gX10_at_X6_get : GoodIn wsX10_at (wsV RX10 150 RX6 yX6_get wsX6_get) := goodIn_app (goodIn_of _ (by decide +kernel)) ggX10_at_X6_get
set_option maxRecDepth 20000 in
theorem ggX10_at_X6_has : GoodIn wsX10_at wsX6_has := goodIn_r _ [8, 9, 61, 62, 63] (by decide +kernel) (by decide +kernel)
set_option maxRecDepth 20000 in
theorem gX10_at_X6_has : GoodIn wsX10_at (wsV RX10 97 RX6 yX6_has wsX6_has) := goodIn_app (goodIn_of _ (by decide +kernel)) ggX10_at_X6_has
set_option maxRecDepth 20000 in
theorem ggX10_at_X9_hasSnow : GoodIn wsX10_at wsX9_hasSnow := goodIn_r _ [29, 30, 31, 15, 16, 7, 17, 18, 19, 51, 52, 53, 54, 55, 56, 57, 58, 59, 60, 61, 62, 63] (by decide +kernel) (by decide +kernel)
set_option maxRecDepth 20000 in
theorem gX10_at_X9_hasSnow : GoodIn wsX10_at (wsV RX10 147 RX9 yX9_hasSnow wsX9_hasSnow) := goodIn_app (goodIn_of _ (by decide +kernel)) ggX10_at_X9_hasSnow
set_option maxRecDepth 20000 in
theorem ggX10_at_X9_jarsAt : GoodIn wsX10_at wsX9_jarsAt := goodIn_r _ [35, 36, 37, 31, 15, 16, 7, 17, 18, 19, 51, 52, 53, 54, 55, 56, 57, 58, 59, 60, 61, 62, 63] (by decide +kernel) (by decide +kernel)
set_option maxRecDepth 20000 in
theorem gX10_at_X9_jarsAt : GoodIn wsX10_at (wsV RX10 169 RX9 yX9_jarsAt wsX9_jarsAt) := goodIn_app (goodIn_of _ (by decide +kernel)) ggX10_at_X9_jarsAt
set_option maxRecDepth 20000 in
theorem ggX10_at_X9_monthAt : GoodIn wsX10_at wsX9_monthAt := goodIn_r _ [24, 25, 51, 52, 53, 54, 55, 56, 57, 58, 59, 60] (by decide +kernel) (by decide +kernel)
set_option maxRecDepth 20000 in
theorem gX10_at_X9_monthAt : GoodIn wsX10_at (wsV RX10 144 RX9 yX9_monthAt wsX9_monthAt) := goodIn_app (goodIn_of _ (by decide +kernel)) ggX10_at_X9_monthAt
set_option maxRecDepth 20000 in
theorem ggX10_best_X10_lawOf : GoodIn wsX10_best wsX10_lawOf := goodIn_r _ [10, 11, 12, 13, 14, 9, 15, 198, 199, 200, 201, 202, 203, 204, 205, 206, 207, 208, 209, 210] (by decide +kernel) (by decide +kernel)
set_option maxRecDepth 20000 in
theorem gX10_best_X10_lawOf : GoodIn wsX10_best (wsV RX10 161 RX10 yX10_lawOf wsX10_lawOf) := goodIn_app (goodIn_of _ (by decide +kernel)) ggX10_best_X10_lawOf
set_option maxRecDepth 20000 in
theorem ggX10_count_X9_monthAt : GoodIn wsX10_count wsX9_monthAt := goodIn_r _ [18, 19, 33, 34, 35, 36, 37, 38, 39, 40, 41, 42] (by decide +kernel) (by decide +kernel)
set_option maxRecDepth 20000 in
theorem gX10_count_X9_monthAt : GoodIn wsX10_count (wsV RX10 144 RX9 yX9_monthAt wsX9_monthAt) := goodIn_app (goodIn_of _ (by decide +kernel)) ggX10_count_X9_monthAt
set_option maxRecDepth 20000 in
theorem ggX10_end_X10_within : GoodIn wsX10_end wsX10_within := goodIn_r _ [5] (by decide +kernel) (by decide +kernel)
set_option maxRecDepth 20000 in
theorem gX10_end_X10_within : GoodIn wsX10_end (va_wsS RX10 79 yX10_within wsX10_within) := goodIn_app (goodIn_of _ (by decide +kernel)) ggX10_end_X10_within
set_option maxRecDepth 20000 in
theorem ggX10_enough_X10_lawOf : GoodIn wsX10_enough wsX10_lawOf := goodIn_r _ [9, 10, 11, 12, 13, 8, 14, 103, 104, 105, 106, 107, 108, 109, 110, 111, 112, 113, 114, 115] (by decide +kernel) (by decide +kernel)
set_option maxRecDepth 20000 in
theorem gX10_enough_X10_lawOf : GoodIn wsX10_enough (wsV RX10 161 RX10 yX10_lawOf wsX10_lawOf) := goodIn_app (goodIn_of _ (by decide +kernel)) ggX10_enough_X10_lawOf
set_option maxRecDepth 20000 in
theorem ggX10_feed_X10_writeBytes : GoodIn wsX10_feed wsX10_writeBytes := goodIn_r _ [6, 1, 7, 8, 9, 10, 11, 12, 13, 14, 15, 16, 17, 18, 19, 20] (by decide +kernel) (by decide +kernel)
set_option maxRecDepth 20000 in
theorem gX10_feed_X10_writeBytes : GoodIn wsX10_feed (wsV RX10 124 RX10 yX10_writeBytes wsX10_writeBytes) := goodIn_app (goodIn_of _ (by decide +kernel)) ggX10_feed_X10_writeBytes
set_option maxRecDepth 20000 in
theorem ggX10_fill_X10_within : GoodIn wsX10_fill wsX10_within := goodIn_r _ [26] (by decide +kernel) (by decide +kernel)
set_option maxRecDepth 20000 in
theorem gX10_fill_X10_within : GoodIn wsX10_fill (va_wsS RX10 79 yX10_within wsX10_within) := goodIn_app (goodIn_of _ (by decide +kernel)) ggX10_fill_X10_within
set_option maxRecDepth 20000 in
theorem ggX10_fill_X6_get : GoodIn wsX10_fill wsX6_get := goodIn_r _ [20, 21, 22, 65, 66, 67] (by decide +kernel) (by decide +kernel)
set_option maxRecDepth 20000 in
theorem gX10_fill_X6_get : GoodIn wsX10_fill (wsV RX10 150 RX6 yX6_get wsX6_get) := goodIn_app (goodIn_of _ (by decide +kernel)) ggX10_fill_X6_get
set_option maxRecDepth 20000 in
theorem ggX10_fill_X6_put : GoodIn wsX10_fill wsX6_put := goodIn_r _ [41, 21, 22, 65, 66, 67] (by decide +kernel) (by decide +kernel)
set_option maxRecDepth 20000 in
theorem gX10_fill_X6_put : GoodIn wsX10_fill (wsV RX10 93 RX6 yX6_put wsX6_put) := goodIn_app (goodIn_of _ (by decide +kernel)) ggX10_fill_X6_put
set_option maxRecDepth 20000 in
theorem ggX10_fill_X9_hasSnow : GoodIn wsX10_fill wsX9_hasSnow := goodIn_r _ [35, 36, 17, 18, 19, 14, 20, 21, 22, 55, 56, 57, 58, 59, 60, 61, 62, 63, 64, 65, 66, 67] (by decide +kernel) (by decide +kernel)
set_option maxRecDepth 20000 in
theorem gX10_fill_X9_hasSnow : GoodIn wsX10_fill (wsV RX10 147 RX9 yX9_hasSnow wsX9_hasSnow) := goodIn_app (goodIn_of _ (by decide +kernel)) ggX10_fill_X9_hasSnow
set_option maxRecDepth 20000 in
theorem ggX10_fill_X9_monthAt : GoodIn wsX10_fill wsX9_monthAt := goodIn_r _ [30, 31, 55, 56, 57, 58, 59, 60, 61, 62, 63, 64] (by decide +kernel) (by decide +kernel)
set_option maxRecDepth 20000 in
theorem gX10_fill_X9_monthAt : GoodIn wsX10_fill (wsV RX10 144 RX9 yX9_monthAt wsX9_monthAt) := goodIn_app (goodIn_of _ (by decide +kernel)) ggX10_fill_X9_monthAt
set_option maxRecDepth 20000 in
theorem ggX10_fill_X9_nodeOf : GoodIn wsX10_fill wsX9_nodeOf := goodIn_r _ [9, 10, 11, 12, 13, 14, 15, 16, 17, 18, 19, 20, 21, 22, 55, 56, 57, 58, 59, 60, 61, 62, 63, 64, 65, 66, 67] (by decide +kernel) (by decide +kernel)
set_option maxRecDepth 20000 in
theorem gX10_fill_X9_nodeOf : GoodIn wsX10_fill (wsV RX10 136 RX9 yX9_nodeOf wsX9_nodeOf) := goodIn_app (goodIn_of _ (by decide +kernel)) ggX10_fill_X9_nodeOf
set_option maxRecDepth 20000 in
theorem ggX10_guess_X10_lawOf : GoodIn wsX10_guess wsX10_lawOf := goodIn_r _ [12, 13, 14, 15, 16, 11, 17, 180, 181, 182, 183, 184, 185, 186, 187, 188, 189, 190, 191, 192] (by decide +kernel) (by decide +kernel)
set_option maxRecDepth 20000 in
theorem gX10_guess_X10_lawOf : GoodIn wsX10_guess (wsV RX10 161 RX10 yX10_lawOf wsX10_lawOf) := goodIn_app (goodIn_of _ (by decide +kernel)) ggX10_guess_X10_lawOf
set_option maxRecDepth 20000 in
theorem ggX10_guess_X10_within : GoodIn wsX10_guess wsX10_within := goodIn_r _ [17] (by decide +kernel) (by decide +kernel)
set_option maxRecDepth 20000 in
theorem gX10_guess_X10_within : GoodIn wsX10_guess (va_wsS RX10 79 yX10_within wsX10_within) := goodIn_app (goodIn_of _ (by decide +kernel)) ggX10_guess_X10_within
set_option maxRecDepth 20000 in
theorem ggX10_guess_X6_has : GoodIn wsX10_guess wsX6_has := goodIn_r _ [22, 23, 210, 211, 212] (by decide +kernel) (by decide +kernel)
set_option maxRecDepth 20000 in
theorem gX10_guess_X6_has : GoodIn wsX10_guess (wsV RX10 97 RX6 yX6_has wsX6_has) := goodIn_app (goodIn_of _ (by decide +kernel)) ggX10_guess_X6_has
set_option maxRecDepth 20000 in
theorem ggX10_isCover_X10_within : GoodIn wsX10_isCover wsX10_within := goodIn_r _ [4] (by decide +kernel) (by decide +kernel)
set_option maxRecDepth 20000 in
theorem gX10_isCover_X10_within : GoodIn wsX10_isCover (va_wsS RX10 79 yX10_within wsX10_within) := goodIn_app (goodIn_of _ (by decide +kernel)) ggX10_isCover_X10_within
set_option maxRecDepth 20000 in
theorem ggX10_isJourney_X6_has : GoodIn wsX10_isJourney wsX6_has := goodIn_r _ [7, 8, 32, 33, 34] (by decide +kernel) (by decide +kernel)
set_option maxRecDepth 20000 in
theorem gX10_isJourney_X6_has : GoodIn wsX10_isJourney (wsV RX10 97 RX6 yX6_has wsX6_has) := goodIn_app (goodIn_of _ (by decide +kernel)) ggX10_isJourney_X6_has
set_option maxRecDepth 20000 in
theorem ggX10_isLoad_X10_isCover : GoodIn wsX10_isLoad wsX10_isCover := goodIn_r _ [8, 2, 3, 4, 5] (by decide +kernel) (by decide +kernel)
set_option maxRecDepth 20000 in
theorem gX10_isLoad_X10_isCover : GoodIn wsX10_isLoad (va_wsS RX10 104 yX10_isCover wsX10_isCover) := goodIn_app (goodIn_of _ (by decide +kernel)) ggX10_isLoad_X10_isCover
set_option maxRecDepth 20000 in
theorem ggX10_isLoad_X10_within : GoodIn wsX10_isLoad wsX10_within := goodIn_r _ [5] (by decide +kernel) (by decide +kernel)
set_option maxRecDepth 20000 in
theorem gX10_isLoad_X10_within : GoodIn wsX10_isLoad (va_wsS RX10 79 yX10_within wsX10_within) := goodIn_app (goodIn_of _ (by decide +kernel)) ggX10_isLoad_X10_within
set_option maxRecDepth 20000 in
theorem ggX10_lawOf_X10_within : GoodIn wsX10_lawOf wsX10_within := goodIn_r _ [6] (by decide +kernel) (by decide +kernel)
set_option maxRecDepth 20000 in
theorem gX10_lawOf_X10_within : GoodIn wsX10_lawOf (va_wsS RX10 79 yX10_within wsX10_within) := goodIn_app (goodIn_of _ (by decide +kernel)) ggX10_lawOf_X10_within
set_option maxRecDepth 20000 in
theorem ggX10_lay_X6_grow : GoodIn wsX10_lay wsX6_grow := goodIn_r _ [37, 28, 17, 18, 65, 66, 67] (by decide +kernel) (by decide +kernel)
set_option maxRecDepth 20000 in
theorem gX10_lay_X6_grow : GoodIn wsX10_lay (wsV RX10 87 RX6 yX6_grow wsX6_grow) := goodIn_app (goodIn_of _ (by decide +kernel)) ggX10_lay_X6_grow
set_option maxRecDepth 20000 in
theorem ggX10_lay_X6_put : GoodIn wsX10_lay wsX6_put := goodIn_r _ [41, 17, 18, 65, 66, 67] (by decide +kernel) (by decide +kernel)
set_option maxRecDepth 20000 in
theorem gX10_lay_X6_put : GoodIn wsX10_lay (wsV RX10 93 RX6 yX6_put wsX6_put) := goodIn_app (goodIn_of _ (by decide +kernel)) ggX10_lay_X6_put

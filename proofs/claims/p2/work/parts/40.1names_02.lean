set_option maxRecDepth 20000 in
theorem ggX10_soonest_X6_has : GoodIn wsX10_soonest wsX6_has := goodIn_r _ [9, 10, 63, 64, 65] (by decide +kernel) (by decide +kernel)
set_option maxRecDepth 20000 in
theorem gX10_soonest_X6_has : GoodIn wsX10_soonest (wsV RX10 97 RX6 yX6_has wsX6_has) := goodIn_app (goodIn_of _ (by decide +kernel)) ggX10_soonest_X6_has
set_option maxRecDepth 20000 in
theorem ggX10_store_X10_within : GoodIn wsX10_store wsX10_within := goodIn_r _ [13] (by decide +kernel) (by decide +kernel)
set_option maxRecDepth 20000 in
theorem gX10_store_X10_within : GoodIn wsX10_store (va_wsS RX10 79 yX10_within wsX10_within) := goodIn_app (goodIn_of _ (by decide +kernel)) ggX10_store_X10_within
set_option maxRecDepth 20000 in
theorem ggX10_store_X6_get : GoodIn wsX10_store wsX6_get := goodIn_r _ [17, 18, 19, 47, 48, 49] (by decide +kernel) (by decide +kernel)
set_option maxRecDepth 20000 in
theorem gX10_store_X6_get : GoodIn wsX10_store (wsV RX10 150 RX6 yX6_get wsX6_get) := goodIn_app (goodIn_of _ (by decide +kernel)) ggX10_store_X6_get
set_option maxRecDepth 20000 in
theorem ggX10_store_X6_has : GoodIn wsX10_store wsX6_has := goodIn_r _ [8, 9, 47, 48, 49] (by decide +kernel) (by decide +kernel)
set_option maxRecDepth 20000 in
theorem gX10_store_X6_has : GoodIn wsX10_store (wsV RX10 97 RX6 yX6_has wsX6_has) := goodIn_app (goodIn_of _ (by decide +kernel)) ggX10_store_X6_has
set_option maxRecDepth 20000 in
theorem ggX10_store_X6_put : GoodIn wsX10_store wsX6_put := goodIn_r _ [23, 18, 19, 47, 48, 49] (by decide +kernel) (by decide +kernel)
set_option maxRecDepth 20000 in
theorem gX10_store_X6_put : GoodIn wsX10_store (wsV RX10 93 RX6 yX6_put wsX6_put) := goodIn_app (goodIn_of _ (by decide +kernel)) ggX10_store_X6_put
set_option maxRecDepth 20000 in
theorem ggX10_tick_X10_lawOf : GoodIn wsX10_tick wsX10_lawOf := goodIn_r _ [9, 10, 11, 12, 13, 8, 14, 174, 175, 176, 177, 178, 179, 180, 181, 182, 183, 184, 185, 186] (by decide +kernel) (by decide +kernel)
set_option maxRecDepth 20000 in
theorem gX10_tick_X10_lawOf : GoodIn wsX10_tick (wsV RX10 161 RX10 yX10_lawOf wsX10_lawOf) := goodIn_app (goodIn_of _ (by decide +kernel)) ggX10_tick_X10_lawOf
set_option maxRecDepth 20000 in
theorem ggX10_tried_X10_lawOf : GoodIn wsX10_tried wsX10_lawOf := goodIn_r _ [10, 11, 12, 13, 14, 9, 15, 139, 140, 141, 142, 143, 144, 145, 146, 147, 148, 149, 150, 151] (by decide +kernel) (by decide +kernel)
set_option maxRecDepth 20000 in
theorem gX10_tried_X10_lawOf : GoodIn wsX10_tried (wsV RX10 161 RX10 yX10_lawOf wsX10_lawOf) := goodIn_app (goodIn_of _ (by decide +kernel)) ggX10_tried_X10_lawOf
set_option maxRecDepth 20000 in
theorem ggX10_warmer_X10_isLoad : GoodIn wsX10_warmer wsX10_isLoad := goodIn_r _ [23, 1, 18, 19, 14, 20, 24, 25, 26] (by decide +kernel) (by decide +kernel)
set_option maxRecDepth 20000 in
theorem gX10_warmer_X10_isLoad : GoodIn wsX10_warmer (va_wsS RX10 191 yX10_isLoad wsX10_isLoad) := goodIn_app (goodIn_of _ (by decide +kernel)) ggX10_warmer_X10_isLoad
set_option maxRecDepth 20000 in
theorem ggX10_warmer_X10_lawOf : GoodIn wsX10_warmer wsX10_lawOf := goodIn_r _ [15, 16, 17, 18, 19, 14, 20, 143, 144, 145, 146, 147, 148, 149, 150, 151, 152, 153, 154, 155] (by decide +kernel) (by decide +kernel)
set_option maxRecDepth 20000 in
theorem gX10_warmer_X10_lawOf : GoodIn wsX10_warmer (wsV RX10 161 RX10 yX10_lawOf wsX10_lawOf) := goodIn_app (goodIn_of _ (by decide +kernel)) ggX10_warmer_X10_lawOf
set_option maxRecDepth 20000 in
theorem ggX10_warmer_X10_within : GoodIn wsX10_warmer wsX10_within := goodIn_r _ [20] (by decide +kernel) (by decide +kernel)
set_option maxRecDepth 20000 in
theorem gX10_warmer_X10_within : GoodIn wsX10_warmer (va_wsS RX10 79 yX10_within wsX10_within) := goodIn_app (goodIn_of _ (by decide +kernel)) ggX10_warmer_X10_within

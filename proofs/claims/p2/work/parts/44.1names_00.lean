set_option maxRecDepth 20000 in
theorem ggX10_feast_X10_isWish : GoodIn wsX10_feast wsX10_isWish := goodIn_r _ [10, 11] (by decide +kernel) (by decide +kernel)
set_option maxRecDepth 20000 in
theorem gX10_feast_X10_isWish : GoodIn wsX10_feast (va_wsS RX10 260 yX10_isWish wsX10_isWish) := goodIn_app (goodIn_of _ (by decide +kernel)) ggX10_feast_X10_isWish
set_option maxRecDepth 20000 in
theorem ggX10_feast_X10_within : GoodIn wsX10_feast wsX10_within := goodIn_r _ [7] (by decide +kernel) (by decide +kernel)
set_option maxRecDepth 20000 in
theorem gX10_feast_X10_within : GoodIn wsX10_feast (va_wsS RX10 79 yX10_within wsX10_within) := goodIn_app (goodIn_of _ (by decide +kernel)) ggX10_feast_X10_within
set_option maxRecDepth 20000 in
theorem ggX10_feast_X6_grow : GoodIn wsX10_feast wsX6_grow := goodIn_r _ [21, 17, 22, 23, 51, 52, 53] (by decide +kernel) (by decide +kernel)
set_option maxRecDepth 20000 in
theorem gX10_feast_X6_grow : GoodIn wsX10_feast (wsV RX10 87 RX6 yX6_grow wsX6_grow) := goodIn_app (goodIn_of _ (by decide +kernel)) ggX10_feast_X6_grow
set_option maxRecDepth 20000 in
theorem ggX10_feast_X6_has : GoodIn wsX10_feast wsX6_has := goodIn_r _ [16, 17, 51, 52, 53] (by decide +kernel) (by decide +kernel)
set_option maxRecDepth 20000 in
theorem gX10_feast_X6_has : GoodIn wsX10_feast (wsV RX10 97 RX6 yX6_has wsX6_has) := goodIn_app (goodIn_of _ (by decide +kernel)) ggX10_feast_X6_has
set_option maxRecDepth 20000 in
theorem ggX10_feast_X6_put : GoodIn wsX10_feast wsX6_put := goodIn_r _ [27, 22, 23, 51, 52, 53] (by decide +kernel) (by decide +kernel)
set_option maxRecDepth 20000 in
theorem gX10_feast_X6_put : GoodIn wsX10_feast (wsV RX10 93 RX6 yX6_put wsX6_put) := goodIn_app (goodIn_of _ (by decide +kernel)) ggX10_feast_X6_put
set_option maxRecDepth 20000 in
theorem ggX10_from_X6_has : GoodIn wsX10_from wsX6_has := goodIn_r _ [10, 11, 35, 36, 37] (by decide +kernel) (by decide +kernel)
set_option maxRecDepth 20000 in
theorem gX10_from_X6_has : GoodIn wsX10_from (wsV RX10 97 RX6 yX6_has wsX6_has) := goodIn_app (goodIn_of _ (by decide +kernel)) ggX10_from_X6_has
set_option maxRecDepth 20000 in
theorem ggX10_jar_X10_isCover : GoodIn wsX10_jar wsX10_isCover := goodIn_r _ [7, 8, 9, 6, 10] (by decide +kernel) (by decide +kernel)
set_option maxRecDepth 20000 in
theorem gX10_jar_X10_isCover : GoodIn wsX10_jar (va_wsS RX10 104 yX10_isCover wsX10_isCover) := goodIn_app (goodIn_of _ (by decide +kernel)) ggX10_jar_X10_isCover
set_option maxRecDepth 20000 in
theorem ggX10_jar_X10_within : GoodIn wsX10_jar wsX10_within := goodIn_r _ [10] (by decide +kernel) (by decide +kernel)
set_option maxRecDepth 20000 in
theorem gX10_jar_X10_within : GoodIn wsX10_jar (va_wsS RX10 79 yX10_within wsX10_within) := goodIn_app (goodIn_of _ (by decide +kernel)) ggX10_jar_X10_within
set_option maxRecDepth 20000 in
theorem ggX10_jar_X6_grow : GoodIn wsX10_jar wsX6_grow := goodIn_r _ [20, 16, 21, 22, 57, 58, 59] (by decide +kernel) (by decide +kernel)
set_option maxRecDepth 20000 in
theorem gX10_jar_X6_grow : GoodIn wsX10_jar (wsV RX10 87 RX6 yX6_grow wsX6_grow) := goodIn_app (goodIn_of _ (by decide +kernel)) ggX10_jar_X6_grow
set_option maxRecDepth 20000 in
theorem ggX10_jar_X6_has : GoodIn wsX10_jar wsX6_has := goodIn_r _ [15, 16, 57, 58, 59] (by decide +kernel) (by decide +kernel)
set_option maxRecDepth 20000 in
theorem gX10_jar_X6_has : GoodIn wsX10_jar (wsV RX10 97 RX6 yX6_has wsX6_has) := goodIn_app (goodIn_of _ (by decide +kernel)) ggX10_jar_X6_has
set_option maxRecDepth 20000 in
theorem ggX10_jar_X6_put : GoodIn wsX10_jar wsX6_put := goodIn_r _ [26, 21, 22, 57, 58, 59] (by decide +kernel) (by decide +kernel)
set_option maxRecDepth 20000 in
theorem gX10_jar_X6_put : GoodIn wsX10_jar (wsV RX10 93 RX6 yX6_put wsX6_put) := goodIn_app (goodIn_of _ (by decide +kernel)) ggX10_jar_X6_put
set_option maxRecDepth 20000 in
theorem ggX10_jar_X9_standAt : GoodIn wsX10_jar wsX9_standAt := goodIn_r _ [31, 32, 33, 24, 25, 14, 26, 21, 22, 47, 48, 49, 50, 51, 52, 53, 54, 55, 56, 57, 58, 59] (by decide +kernel) (by decide +kernel)
set_option maxRecDepth 20000 in
theorem gX10_jar_X9_standAt : GoodIn wsX10_jar (wsV RX10 110 RX9 yX9_standAt wsX9_standAt) := goodIn_app (goodIn_of _ (by decide +kernel)) ggX10_jar_X9_standAt
set_option maxRecDepth 20000 in
theorem ggX10_month_X10_within : GoodIn wsX10_month wsX10_within := goodIn_r _ [6] (by decide +kernel) (by decide +kernel)
set_option maxRecDepth 20000 in
theorem gX10_month_X10_within : GoodIn wsX10_month (va_wsS RX10 79 yX10_within wsX10_within) := goodIn_app (goodIn_of _ (by decide +kernel)) ggX10_month_X10_within
set_option maxRecDepth 20000 in
theorem ggX10_node_X10_within : GoodIn wsX10_node wsX10_within := goodIn_r _ [6] (by decide +kernel) (by decide +kernel)
set_option maxRecDepth 20000 in
theorem gX10_node_X10_within : GoodIn wsX10_node (va_wsS RX10 79 yX10_within wsX10_within) := goodIn_app (goodIn_of _ (by decide +kernel)) ggX10_node_X10_within
set_option maxRecDepth 20000 in
theorem ggX10_node_X6_grow : GoodIn wsX10_node wsX6_grow := goodIn_r _ [11, 12, 13, 14, 42, 43, 44] (by decide +kernel) (by decide +kernel)
set_option maxRecDepth 20000 in
theorem gX10_node_X6_grow : GoodIn wsX10_node (wsV RX10 87 RX6 yX6_grow wsX6_grow) := goodIn_app (goodIn_of _ (by decide +kernel)) ggX10_node_X6_grow
set_option maxRecDepth 20000 in
theorem ggX10_node_X6_put : GoodIn wsX10_node wsX6_put := goodIn_r _ [18, 13, 14, 42, 43, 44] (by decide +kernel) (by decide +kernel)
set_option maxRecDepth 20000 in
theorem gX10_node_X6_put : GoodIn wsX10_node (wsV RX10 93 RX6 yX6_put wsX6_put) := goodIn_app (goodIn_of _ (by decide +kernel)) ggX10_node_X6_put
set_option maxRecDepth 20000 in
theorem ggX10_order_X10_isWish : GoodIn wsX10_order wsX10_isWish := goodIn_r _ [11, 1] (by decide +kernel) (by decide +kernel)
set_option maxRecDepth 20000 in
theorem gX10_order_X10_isWish : GoodIn wsX10_order (va_wsS RX10 260 yX10_isWish wsX10_isWish) := goodIn_app (goodIn_of _ (by decide +kernel)) ggX10_order_X10_isWish
set_option maxRecDepth 20000 in
theorem ggX10_order_X10_within : GoodIn wsX10_order wsX10_within := goodIn_r _ [8] (by decide +kernel) (by decide +kernel)
set_option maxRecDepth 20000 in
theorem gX10_order_X10_within : GoodIn wsX10_order (va_wsS RX10 79 yX10_within wsX10_within) := goodIn_app (goodIn_of _ (by decide +kernel)) ggX10_order_X10_within
set_option maxRecDepth 20000 in
theorem ggX10_order_X6_grow : GoodIn wsX10_order wsX6_grow := goodIn_r _ [21, 17, 22, 23, 51, 52, 53] (by decide +kernel) (by decide +kernel)
set_option maxRecDepth 20000 in
theorem gX10_order_X6_grow : GoodIn wsX10_order (wsV RX10 87 RX6 yX6_grow wsX6_grow) := goodIn_app (goodIn_of _ (by decide +kernel)) ggX10_order_X6_grow
set_option maxRecDepth 20000 in
theorem ggX10_order_X6_has : GoodIn wsX10_order wsX6_has := goodIn_r _ [16, 17, 51, 52, 53] (by decide +kernel) (by decide +kernel)
set_option maxRecDepth 20000 in
theorem gX10_order_X6_has : GoodIn wsX10_order (wsV RX10 97 RX6 yX6_has wsX6_has) := goodIn_app (goodIn_of _ (by decide +kernel)) ggX10_order_X6_has
set_option maxRecDepth 20000 in
theorem ggX10_order_X6_put : GoodIn wsX10_order wsX6_put := goodIn_r _ [27, 22, 23, 51, 52, 53] (by decide +kernel) (by decide +kernel)
set_option maxRecDepth 20000 in
theorem gX10_order_X6_put : GoodIn wsX10_order (wsV RX10 93 RX6 yX6_put wsX6_put) := goodIn_app (goodIn_of _ (by decide +kernel)) ggX10_order_X6_put
set_option maxRecDepth 20000 in
theorem ggX10_pass_X10_within : GoodIn wsX10_pass wsX10_within := goodIn_r _ [13] (by decide +kernel) (by decide +kernel)
set_option maxRecDepth 20000 in
theorem gX10_pass_X10_within : GoodIn wsX10_pass (va_wsS RX10 79 yX10_within wsX10_within) := goodIn_app (goodIn_of _ (by decide +kernel)) ggX10_pass_X10_within
set_option maxRecDepth 20000 in
theorem ggX10_pass_X6_grow : GoodIn wsX10_pass wsX6_grow := goodIn_r _ [17, 9, 18, 19, 47, 48, 49] (by decide +kernel) (by decide +kernel)
set_option maxRecDepth 20000 in
theorem gX10_pass_X6_grow : GoodIn wsX10_pass (wsV RX10 87 RX6 yX6_grow wsX6_grow) := goodIn_app (goodIn_of _ (by decide +kernel)) ggX10_pass_X6_grow
set_option maxRecDepth 20000 in
theorem ggX10_pass_X6_has : GoodIn wsX10_pass wsX6_has := goodIn_r _ [8, 9, 47, 48, 49] (by decide +kernel) (by decide +kernel)
set_option maxRecDepth 20000 in
theorem gX10_pass_X6_has : GoodIn wsX10_pass (wsV RX10 97 RX6 yX6_has wsX6_has) := goodIn_app (goodIn_of _ (by decide +kernel)) ggX10_pass_X6_has
set_option maxRecDepth 20000 in
theorem ggX10_pass_X6_put : GoodIn wsX10_pass wsX6_put := goodIn_r _ [23, 18, 19, 47, 48, 49] (by decide +kernel) (by decide +kernel)
set_option maxRecDepth 20000 in
theorem gX10_pass_X6_put : GoodIn wsX10_pass (wsV RX10 93 RX6 yX6_put wsX6_put) := goodIn_app (goodIn_of _ (by decide +kernel)) ggX10_pass_X6_put

set_option maxRecDepth 20000 in
theorem ggX3_canServe_J6_bitCount_0f7a4 : GoodIn wsX3_canServe wsJ6_bitCount_0f7a4 := goodIn_r _ [5, 6, 7, 8] (by decide +kernel) (by decide +kernel)
set_option maxRecDepth 20000 in
theorem gX3_canServe_J6_bitCount_0f7a4 : GoodIn wsX3_canServe (va_wsS RX3 60 yJ6_bitCount_0f7a4 wsJ6_bitCount_0f7a4) := goodIn_app (goodIn_of _ (by decide +kernel)) ggX3_canServe_J6_bitCount_0f7a4
set_option maxRecDepth 20000 in
theorem ggX3_choose_X3_firstJar : GoodIn wsX3_choose wsX3_firstJar := goodIn_r _ [37, 2, 3, 26, 15, 16, 17, 18, 19, 20, 21, 6, 7, 8, 9, 10, 4, 11, 12, 13, 14, 22, 23, 24, 25, 27, 28, 29, 30, 31, 32, 33, 38, 39, 40, 41, 42, 43, 44, 45, 46, 47, 48, 49, 50, 51, 52, 53, 54] (by decide +kernel) (by decide +kernel)
set_option maxRecDepth 20000 in
theorem gX3_choose_X3_firstJar : GoodIn wsX3_choose (wsV RX3 45 RX3 yX3_firstJar wsX3_firstJar) := goodIn_app (goodIn_of _ (by decide +kernel)) ggX3_choose_X3_firstJar
set_option maxRecDepth 20000 in
theorem ggX3_choose_X3_greatest : GoodIn wsX3_choose wsX3_greatest := goodIn_r _ [10, 2, 3, 4, 11, 12, 13, 9, 14, 15, 16, 17, 18, 19, 20, 21, 22, 23, 24, 25, 26, 27, 28, 29, 30, 31, 32, 33, 38, 39, 40, 41, 42, 43, 44, 45, 46, 47, 48, 49, 50, 51, 52, 53, 54] (by decide +kernel) (by decide +kernel)
set_option maxRecDepth 20000 in
theorem gX3_choose_X3_greatest : GoodIn wsX3_choose (wsV RX3 34 RX3 yX3_greatest wsX3_greatest) := goodIn_app (goodIn_of _ (by decide +kernel)) ggX3_choose_X3_greatest
set_option maxRecDepth 20000 in
theorem ggX3_choose_X6_get : GoodIn wsX3_choose wsX6_get := goodIn_r _ [19, 20, 21, 52, 53, 54] (by decide +kernel) (by decide +kernel)
set_option maxRecDepth 20000 in
theorem gX3_choose_X6_get : GoodIn wsX3_choose (wsV RX3 49 RX6 yX6_get wsX6_get) := goodIn_app (goodIn_of _ (by decide +kernel)) ggX3_choose_X6_get
set_option maxRecDepth 20000 in
theorem ggX3_firstJar_X3_greatest : GoodIn wsX3_firstJar wsX3_greatest := goodIn_r _ [15, 1, 2, 16, 17, 18, 19, 14, 20, 4, 5, 6, 7, 8, 9, 10, 21, 22, 23, 24, 3, 25, 26, 27, 28, 29, 30, 31, 32, 33, 34, 35, 36, 37, 38, 39, 40, 41, 42, 43, 44, 45, 46, 47, 48] (by decide +kernel) (by decide +kernel)
set_option maxRecDepth 20000 in
theorem gX3_firstJar_X3_greatest : GoodIn wsX3_firstJar (wsV RX3 34 RX3 yX3_greatest wsX3_greatest) := goodIn_app (goodIn_of _ (by decide +kernel)) ggX3_firstJar_X3_greatest
set_option maxRecDepth 20000 in
theorem ggX3_firstJar_X6_get : GoodIn wsX3_firstJar wsX6_get := goodIn_r _ [8, 9, 10, 46, 47, 48] (by decide +kernel) (by decide +kernel)
set_option maxRecDepth 20000 in
theorem gX3_firstJar_X6_get : GoodIn wsX3_firstJar (wsV RX3 49 RX6 yX6_get wsX6_get) := goodIn_app (goodIn_of _ (by decide +kernel)) ggX3_firstJar_X6_get
set_option maxRecDepth 20000 in
theorem ggX3_greatest_X3_canServe : GoodIn wsX3_greatest wsX3_canServe := goodIn_r _ [19, 20, 21, 22, 23, 24, 25, 26, 27, 28, 29, 30, 31] (by decide +kernel) (by decide +kernel)
set_option maxRecDepth 20000 in
theorem gX3_greatest_X3_canServe : GoodIn wsX3_greatest (wsV RX3 56 RX3 yX3_canServe wsX3_canServe) := goodIn_app (goodIn_of _ (by decide +kernel)) ggX3_greatest_X3_canServe
set_option maxRecDepth 20000 in
theorem ggX3_greatest_X3_priceOf : GoodIn wsX3_greatest wsX3_priceOf := goodIn_r _ [8, 1, 2, 9, 10, 11, 12, 13, 14, 15, 28, 29, 30, 31, 32, 33, 34, 35, 36, 37, 38, 39, 40, 41, 42, 43, 44] (by decide +kernel) (by decide +kernel)
set_option maxRecDepth 20000 in
theorem gX3_greatest_X3_priceOf : GoodIn wsX3_greatest (wsV RX3 52 RX3 yX3_priceOf wsX3_priceOf) := goodIn_app (goodIn_of _ (by decide +kernel)) ggX3_greatest_X3_priceOf
set_option maxRecDepth 20000 in
theorem ggX3_jarFor_X6_has : GoodIn wsX3_jarFor wsX6_has := goodIn_r _ [8, 9, 24, 25, 26] (by decide +kernel) (by decide +kernel)
set_option maxRecDepth 20000 in
theorem gX3_jarFor_X6_has : GoodIn wsX3_jarFor (wsV RX3 28 RX6 yX6_has wsX6_has) := goodIn_app (goodIn_of _ (by decide +kernel)) ggX3_jarFor_X6_has
set_option maxRecDepth 20000 in
theorem ggX3_priceOf_X6_get : GoodIn wsX3_priceOf wsX6_get := goodIn_r _ [7, 8, 9, 24, 25, 26] (by decide +kernel) (by decide +kernel)
set_option maxRecDepth 20000 in
theorem gX3_priceOf_X6_get : GoodIn wsX3_priceOf (wsV RX3 49 RX6 yX6_get wsX6_get) := goodIn_app (goodIn_of _ (by decide +kernel)) ggX3_priceOf_X6_get

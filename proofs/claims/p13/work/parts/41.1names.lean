theorem ggX10_ahead_X0_step : GoodIn wsX10_ahead wsX0_step := gi_ (A := ixX10_ahead) (B := ixX0_step) wt701 (by decide +kernel)
theorem gX10_ahead_X0_step : GoodIn wsX10_ahead (wsV RX10 165 RX0 yX0_step wsX0_step) := g4_ (A := ixX10_ahead) wt698 wt699 wt700 wt28 (by decide +kernel) ggX10_ahead_X0_step
theorem ggX10_ahead_X10_within : GoodIn wsX10_ahead wsX10_within := gi_ (A := ixX10_ahead) (B := ixX10_within) wt174 (by decide +kernel)
theorem gX10_ahead_X10_within : GoodIn wsX10_ahead (va_wsS RX10 79 yX10_within wsX10_within) := g3_ (A := ixX10_ahead) wt172 wt173 wt2 (by decide +kernel) ggX10_ahead_X10_within
theorem ggX10_ahead_X9_copyFrom : GoodIn wsX10_ahead wsX9_copyFrom := gi_ (A := ixX10_ahead) (B := ixX9_copyFrom) wt1362 (by decide +kernel)
theorem gX10_ahead_X9_copyFrom : GoodIn wsX10_ahead (wsV RX10 295 RX9 yX9_copyFrom wsX9_copyFrom) := g4_ (A := ixX10_ahead) wt1359 wt1360 wt1361 wt14 (by decide +kernel) ggX10_ahead_X9_copyFrom
theorem ggX10_ahead_X9_dropsOfAll : GoodIn wsX10_ahead wsX9_dropsOfAll := gi_ (A := ixX10_ahead) (B := ixX9_dropsOfAll) wt1375 (by decide +kernel)
theorem gX10_ahead_X9_dropsOfAll : GoodIn wsX10_ahead (wsV RX10 298 RX9 yX9_dropsOfAll wsX9_dropsOfAll) := g4_ (A := ixX10_ahead) wt1372 wt1373 wt1374 wt14 (by decide +kernel) ggX10_ahead_X9_dropsOfAll
theorem ggX10_ahead_X9_jarsThatAre : GoodIn wsX10_ahead wsX9_jarsThatAre := gi_ (A := ixX10_ahead) (B := ixX9_jarsThatAre) wt1379 (by decide +kernel)
theorem gX10_ahead_X9_jarsThatAre : GoodIn wsX10_ahead (wsV RX10 301 RX9 yX9_jarsThatAre wsX9_jarsThatAre) := g4_ (A := ixX10_ahead) wt1376 wt1377 wt1378 wt14 (by decide +kernel) ggX10_ahead_X9_jarsThatAre
theorem ggX10_all_X10_within : GoodIn wsX10_all wsX10_within := gi_ (A := ixX10_all) (B := ixX10_within) wt174 (by decide +kernel)
theorem gX10_all_X10_within : GoodIn wsX10_all (va_wsS RX10 79 yX10_within wsX10_within) := g3_ (A := ixX10_all) wt172 wt173 wt2 (by decide +kernel) ggX10_all_X10_within
theorem ggX10_all_X3_choose : GoodIn wsX10_all wsX3_choose := gi_ (A := ixX10_all) (B := ixX3_choose) wt1240 (by decide +kernel)
theorem gX10_all_X3_choose : GoodIn wsX10_all (wsV RX10 276 RX3 yX3_choose wsX3_choose) := g4_ (A := ixX10_all) wt1237 wt1238 wt1239 wt44 (by decide +kernel) ggX10_all_X3_choose
theorem ggX10_all_X3_jarFor : GoodIn wsX10_all wsX3_jarFor := gi_ (A := ixX10_all) (B := ixX3_jarFor) wt1271 (by decide +kernel)
theorem gX10_all_X3_jarFor : GoodIn wsX10_all (wsV RX10 282 RX3 yX3_jarFor wsX3_jarFor) := g4_ (A := ixX10_all) wt1268 wt1269 wt1270 wt44 (by decide +kernel) ggX10_all_X3_jarFor
theorem ggX10_all_X3_offer : GoodIn wsX10_all wsX3_offer := gi_ (A := ixX10_all) (B := ixX3_offer) wt1236 (by decide +kernel)
theorem gX10_all_X3_offer : GoodIn wsX10_all (wsV RX10 273 RX3 yX3_offer wsX3_offer) := g4_ (A := ixX10_all) wt1233 wt1234 wt1235 wt44 (by decide +kernel) ggX10_all_X3_offer
theorem ggX10_all_X3_open : GoodIn wsX10_all wsX3_open := gi_ (A := ixX10_all) (B := ixX3_open) wt1232 (by decide +kernel)
theorem gX10_all_X3_open : GoodIn wsX10_all (wsV RX10 270 RX3 yX3_open wsX3_open) := g4_ (A := ixX10_all) wt1229 wt1230 wt1231 wt44 (by decide +kernel) ggX10_all_X3_open
theorem ggX10_all_X5_leftFor : GoodIn wsX10_all wsX5_leftFor := gi_ (A := ixX10_all) (B := ixX5_leftFor) wt1209 (by decide +kernel)
theorem gX10_all_X5_leftFor : GoodIn wsX10_all (wsV RX10 266 RX5 yX5_leftFor wsX5_leftFor) := g4_ (A := ixX10_all) wt1206 wt1207 wt1208 wt36 (by decide +kernel) ggX10_all_X5_leftFor
theorem ggX10_best_X10_isJourney : GoodIn wsX10_best wsX10_isJourney := gi_ (A := ixX10_best) (B := ixX10_isJourney) wt1026 (by decide +kernel)
theorem gX10_best_X10_isJourney : GoodIn wsX10_best (wsV RX10 208 RX10 yX10_isJourney wsX10_isJourney) := g4_ (A := ixX10_best) wt1023 wt1024 wt1025 wt2 (by decide +kernel) ggX10_best_X10_isJourney
theorem ggX10_best_X10_isLoad : GoodIn wsX10_best wsX10_isLoad := gi_ (A := ixX10_best) (B := ixX10_isLoad) wt955 (by decide +kernel)
theorem gX10_best_X10_isLoad : GoodIn wsX10_best (va_wsS RX10 191 yX10_isLoad wsX10_isLoad) := g3_ (A := ixX10_best) wt953 wt954 wt2 (by decide +kernel) ggX10_best_X10_isLoad
theorem ggX10_best_X10_within : GoodIn wsX10_best wsX10_within := gi_ (A := ixX10_best) (B := ixX10_within) wt174 (by decide +kernel)
theorem gX10_best_X10_within : GoodIn wsX10_best (va_wsS RX10 79 yX10_within wsX10_within) := g3_ (A := ixX10_best) wt172 wt173 wt2 (by decide +kernel) ggX10_best_X10_within
theorem ggX10_best_X5_aim : GoodIn wsX10_best wsX5_aim := gi_ (A := ixX10_best) (B := ixX5_aim) wt1030 (by decide +kernel)
theorem gX10_best_X5_aim : GoodIn wsX10_best (wsV RX10 211 RX5 yX5_aim wsX5_aim) := g4_ (A := ixX10_best) wt1027 wt1028 wt1029 wt36 (by decide +kernel) ggX10_best_X5_aim
theorem ggX10_best_X5_findBest : GoodIn wsX10_best wsX5_findBest := gi_ (A := ixX10_best) (B := ixX5_findBest) wt1062 (by decide +kernel)
theorem gX10_best_X5_findBest : GoodIn wsX10_best (wsV RX10 214 RX5 yX5_findBest wsX5_findBest) := g4_ (A := ixX10_best) wt1059 wt1060 wt1061 wt36 (by decide +kernel) ggX10_best_X5_findBest
theorem ggX10_best_X5_passOf : GoodIn wsX10_best wsX5_passOf := gi_ (A := ixX10_best) (B := ixX5_passOf) wt1080 (by decide +kernel)
theorem gX10_best_X5_passOf : GoodIn wsX10_best (wsV RX10 226 RX5 yX5_passOf wsX5_passOf) := g4_ (A := ixX10_best) wt1077 wt1078 wt1079 wt36 (by decide +kernel) ggX10_best_X5_passOf
theorem ggX10_best_X7_begin : GoodIn wsX10_best wsX7_begin := gi_ (A := ixX10_best) (B := ixX7_begin) wt959 (by decide +kernel)
theorem gX10_best_X7_begin : GoodIn wsX10_best (wsV RX10 195 RX7 yX7_begin wsX7_begin) := g4_ (A := ixX10_best) wt956 wt957 wt958 wt32 (by decide +kernel) ggX10_best_X7_begin
theorem ggX10_enough_X0_lasts : GoodIn wsX10_enough wsX0_lasts := gi_ (A := ixX10_enough) (B := ixX0_lasts) wt1306 (by decide +kernel)
theorem gX10_enough_X0_lasts : GoodIn wsX10_enough (wsV RX10 288 RX0 yX0_lasts wsX0_lasts) := g4_ (A := ixX10_enough) wt1303 wt1304 wt1305 wt28 (by decide +kernel) ggX10_enough_X0_lasts
theorem ggX10_enough_X10_within : GoodIn wsX10_enough wsX10_within := gi_ (A := ixX10_enough) (B := ixX10_within) wt174 (by decide +kernel)
theorem gX10_enough_X10_within : GoodIn wsX10_enough (va_wsS RX10 79 yX10_within wsX10_within) := g3_ (A := ixX10_enough) wt172 wt173 wt2 (by decide +kernel) ggX10_enough_X10_within
theorem ggX10_enough_X6_has : GoodIn wsX10_enough wsX6_has := gi_ (A := ixX10_enough) (B := ixX6_has) wt202 (by decide +kernel)
theorem gX10_enough_X6_has : GoodIn wsX10_enough (wsV RX10 97 RX6 yX6_has wsX6_has) := g4_ (A := ixX10_enough) wt199 wt200 wt201 wt51 (by decide +kernel) ggX10_enough_X6_has
theorem ggX10_guess_X10_isLoad : GoodIn wsX10_guess wsX10_isLoad := gi_ (A := ixX10_guess) (B := ixX10_isLoad) wt955 (by decide +kernel)
theorem gX10_guess_X10_isLoad : GoodIn wsX10_guess (va_wsS RX10 191 yX10_isLoad wsX10_isLoad) := g3_ (A := ixX10_guess) wt953 wt954 wt2 (by decide +kernel) ggX10_guess_X10_isLoad
theorem ggX10_guess_X7_begin : GoodIn wsX10_guess wsX7_begin := gi_ (A := ixX10_guess) (B := ixX7_begin) wt959 (by decide +kernel)
theorem gX10_guess_X7_begin : GoodIn wsX10_guess (wsV RX10 195 RX7 yX7_begin wsX7_begin) := g4_ (A := ixX10_guess) wt956 wt957 wt958 wt32 (by decide +kernel) ggX10_guess_X7_begin
theorem ggX10_guess_X8_fewestAt : GoodIn wsX10_guess wsX8_fewestAt := gi_ (A := ixX10_guess) (B := ixX8_fewestAt) wt1171 (by decide +kernel)
theorem gX10_guess_X8_fewestAt : GoodIn wsX10_guess (wsV RX10 254 RX8 yX8_fewestAt wsX8_fewestAt) := g4_ (A := ixX10_guess) wt1168 wt1169 wt1170 wt40 (by decide +kernel) ggX10_guess_X8_fewestAt
theorem ggX10_guess_X8_find : GoodIn wsX10_guess wsX8_find := gi_ (A := ixX10_guess) (B := ixX8_find) wt1143 (by decide +kernel)
theorem gX10_guess_X8_find : GoodIn wsX10_guess (wsV RX10 248 RX8 yX8_find wsX8_find) := g4_ (A := ixX10_guess) wt1140 wt1141 wt1142 wt40 (by decide +kernel) ggX10_guess_X8_find
theorem ggX10_guess_X8_mostAt : GoodIn wsX10_guess wsX8_mostAt := gi_ (A := ixX10_guess) (B := ixX8_mostAt) wt1175 (by decide +kernel)
theorem gX10_guess_X8_mostAt : GoodIn wsX10_guess (wsV RX10 257 RX8 yX8_mostAt wsX8_mostAt) := g4_ (A := ixX10_guess) wt1172 wt1173 wt1174 wt40 (by decide +kernel) ggX10_guess_X8_mostAt
theorem ggX10_least_X0_lasts : GoodIn wsX10_least wsX0_lasts := gi_ (A := ixX10_least) (B := ixX0_lasts) wt1306 (by decide +kernel)
theorem gX10_least_X0_lasts : GoodIn wsX10_least (wsV RX10 288 RX0 yX0_lasts wsX0_lasts) := g4_ (A := ixX10_least) wt1303 wt1304 wt1305 wt28 (by decide +kernel) ggX10_least_X0_lasts
theorem ggX10_least_X6_has : GoodIn wsX10_least wsX6_has := gi_ (A := ixX10_least) (B := ixX6_has) wt202 (by decide +kernel)
theorem gX10_least_X6_has : GoodIn wsX10_least (wsV RX10 97 RX6 yX6_has wsX6_has) := g4_ (A := ixX10_least) wt199 wt200 wt201 wt51 (by decide +kernel) ggX10_least_X6_has
theorem ggX10_melt_X0_meltOf : GoodIn wsX10_melt wsX0_meltOf := gi_ (A := ixX10_melt) (B := ixX0_meltOf) wt715 (by decide +kernel)
theorem gX10_melt_X0_meltOf : GoodIn wsX10_melt (wsV RX10 172 RX0 yX0_meltOf wsX0_meltOf) := g4_ (A := ixX10_melt) wt906 wt713 wt714 wt28 (by decide +kernel) ggX10_melt_X0_meltOf
theorem ggX10_melt_X6_get : GoodIn wsX10_melt wsX6_get := gi_ (A := ixX10_melt) (B := ixX6_get) wt597 (by decide +kernel)
theorem gX10_melt_X6_get : GoodIn wsX10_melt (wsV RX10 150 RX6 yX6_get wsX6_get) := g4_ (A := ixX10_melt) wt607 wt595 wt596 wt51 (by decide +kernel) ggX10_melt_X6_get
theorem ggX10_melt_X6_has : GoodIn wsX10_melt wsX6_has := gi_ (A := ixX10_melt) (B := ixX6_has) wt202 (by decide +kernel)
theorem gX10_melt_X6_has : GoodIn wsX10_melt (wsV RX10 97 RX6 yX6_has wsX6_has) := g4_ (A := ixX10_melt) wt199 wt200 wt201 wt51 (by decide +kernel) ggX10_melt_X6_has
theorem ggX10_nights_X6_get : GoodIn wsX10_nights wsX6_get := gi_ (A := ixX10_nights) (B := ixX6_get) wt597 (by decide +kernel)
theorem gX10_nights_X6_get : GoodIn wsX10_nights (wsV RX10 150 RX6 yX6_get wsX6_get) := g4_ (A := ixX10_nights) wt607 wt595 wt596 wt51 (by decide +kernel) ggX10_nights_X6_get
theorem ggX10_nights_X6_has : GoodIn wsX10_nights wsX6_has := gi_ (A := ixX10_nights) (B := ixX6_has) wt202 (by decide +kernel)
theorem gX10_nights_X6_has : GoodIn wsX10_nights (wsV RX10 97 RX6 yX6_has wsX6_has) := g4_ (A := ixX10_nights) wt199 wt200 wt201 wt51 (by decide +kernel) ggX10_nights_X6_has
theorem ggX10_nights_X7_begin : GoodIn wsX10_nights wsX7_begin := gi_ (A := ixX10_nights) (B := ixX7_begin) wt959 (by decide +kernel)
theorem gX10_nights_X7_begin : GoodIn wsX10_nights (wsV RX10 195 RX7 yX7_begin wsX7_begin) := g4_ (A := ixX10_nights) wt956 wt957 wt958 wt32 (by decide +kernel) ggX10_nights_X7_begin
theorem ggX10_nights_X7_venture : GoodIn wsX10_nights wsX7_venture := gi_ (A := ixX10_nights) (B := ixX7_venture) wt1340 (by decide +kernel)
theorem gX10_nights_X7_venture : GoodIn wsX10_nights (wsV RX10 292 RX7 yX7_venture wsX7_venture) := g4_ (A := ixX10_nights) wt1337 wt1338 wt1339 wt32 (by decide +kernel) ggX10_nights_X7_venture
theorem ggX10_price_X10_isJourney : GoodIn wsX10_price wsX10_isJourney := gi_ (A := ixX10_price) (B := ixX10_isJourney) wt1026 (by decide +kernel)
theorem gX10_price_X10_isJourney : GoodIn wsX10_price (wsV RX10 208 RX10 yX10_isJourney wsX10_isJourney) := g4_ (A := ixX10_price) wt1023 wt1024 wt1025 wt2 (by decide +kernel) ggX10_price_X10_isJourney
theorem ggX10_price_X10_isLoad : GoodIn wsX10_price wsX10_isLoad := gi_ (A := ixX10_price) (B := ixX10_isLoad) wt955 (by decide +kernel)
theorem gX10_price_X10_isLoad : GoodIn wsX10_price (va_wsS RX10 191 yX10_isLoad wsX10_isLoad) := g3_ (A := ixX10_price) wt953 wt954 wt2 (by decide +kernel) ggX10_price_X10_isLoad
theorem ggX10_price_X5_aim : GoodIn wsX10_price wsX5_aim := gi_ (A := ixX10_price) (B := ixX5_aim) wt1030 (by decide +kernel)
theorem gX10_price_X5_aim : GoodIn wsX10_price (wsV RX10 211 RX5 yX5_aim wsX5_aim) := g4_ (A := ixX10_price) wt1027 wt1028 wt1029 wt36 (by decide +kernel) ggX10_price_X5_aim
theorem ggX10_price_X5_findBest : GoodIn wsX10_price wsX5_findBest := gi_ (A := ixX10_price) (B := ixX5_findBest) wt1062 (by decide +kernel)
theorem gX10_price_X5_findBest : GoodIn wsX10_price (wsV RX10 214 RX5 yX5_findBest wsX5_findBest) := g4_ (A := ixX10_price) wt1059 wt1060 wt1061 wt36 (by decide +kernel) ggX10_price_X5_findBest
theorem ggX10_price_X6_has : GoodIn wsX10_price wsX6_has := gi_ (A := ixX10_price) (B := ixX6_has) wt202 (by decide +kernel)
theorem gX10_price_X6_has : GoodIn wsX10_price (wsV RX10 97 RX6 yX6_has wsX6_has) := g4_ (A := ixX10_price) wt199 wt200 wt201 wt51 (by decide +kernel) ggX10_price_X6_has
theorem ggX10_price_X7_begin : GoodIn wsX10_price wsX7_begin := gi_ (A := ixX10_price) (B := ixX7_begin) wt959 (by decide +kernel)
theorem gX10_price_X7_begin : GoodIn wsX10_price (wsV RX10 195 RX7 yX7_begin wsX7_begin) := g4_ (A := ixX10_price) wt956 wt957 wt958 wt32 (by decide +kernel) ggX10_price_X7_begin
theorem ggX10_serves_X5_leftFor : GoodIn wsX10_serves wsX5_leftFor := gi_ (A := ixX10_serves) (B := ixX5_leftFor) wt1209 (by decide +kernel)
theorem gX10_serves_X5_leftFor : GoodIn wsX10_serves (wsV RX10 266 RX5 yX5_leftFor wsX5_leftFor) := g4_ (A := ixX10_serves) wt1206 wt1207 wt1208 wt36 (by decide +kernel) ggX10_serves_X5_leftFor
theorem ggX10_serves_X6_has : GoodIn wsX10_serves wsX6_has := gi_ (A := ixX10_serves) (B := ixX6_has) wt202 (by decide +kernel)
theorem gX10_serves_X6_has : GoodIn wsX10_serves (wsV RX10 97 RX6 yX6_has wsX6_has) := g4_ (A := ixX10_serves) wt199 wt200 wt201 wt51 (by decide +kernel) ggX10_serves_X6_has
theorem ggX10_tick_X0_step : GoodIn wsX10_tick wsX0_step := gi_ (A := ixX10_tick) (B := ixX0_step) wt701 (by decide +kernel)
theorem gX10_tick_X0_step : GoodIn wsX10_tick (wsV RX10 165 RX0 yX0_step wsX0_step) := g4_ (A := ixX10_tick) wt698 wt699 wt700 wt28 (by decide +kernel) ggX10_tick_X0_step
theorem ggX10_tried_X10_isLoad : GoodIn wsX10_tried wsX10_isLoad := gi_ (A := ixX10_tried) (B := ixX10_isLoad) wt955 (by decide +kernel)
theorem gX10_tried_X10_isLoad : GoodIn wsX10_tried (va_wsS RX10 191 yX10_isLoad wsX10_isLoad) := g3_ (A := ixX10_tried) wt953 wt954 wt2 (by decide +kernel) ggX10_tried_X10_isLoad
theorem ggX10_tried_X10_within : GoodIn wsX10_tried wsX10_within := gi_ (A := ixX10_tried) (B := ixX10_within) wt174 (by decide +kernel)
theorem gX10_tried_X10_within : GoodIn wsX10_tried (va_wsS RX10 79 yX10_within wsX10_within) := g3_ (A := ixX10_tried) wt172 wt173 wt2 (by decide +kernel) ggX10_tried_X10_within
theorem ggX10_tried_X7_begin : GoodIn wsX10_tried wsX7_begin := gi_ (A := ixX10_tried) (B := ixX7_begin) wt959 (by decide +kernel)
theorem gX10_tried_X7_begin : GoodIn wsX10_tried (wsV RX10 195 RX7 yX7_begin wsX7_begin) := g4_ (A := ixX10_tried) wt956 wt957 wt958 wt32 (by decide +kernel) ggX10_tried_X7_begin
theorem ggX10_tried_X7_followKeeping : GoodIn wsX10_tried wsX7_followKeeping := gi_ (A := ixX10_tried) (B := ixX7_followKeeping) wt969 (by decide +kernel)
theorem gX10_tried_X7_followKeeping : GoodIn wsX10_tried (wsV RX10 199 RX7 yX7_followKeeping wsX7_followKeeping) := g4_ (A := ixX10_tried) wt966 wt967 wt968 wt32 (by decide +kernel) ggX10_tried_X7_followKeeping
theorem ggX10_warmer_X7_begin : GoodIn wsX10_warmer wsX7_begin := gi_ (A := ixX10_warmer) (B := ixX7_begin) wt959 (by decide +kernel)
theorem gX10_warmer_X7_begin : GoodIn wsX10_warmer (wsV RX10 195 RX7 yX7_begin wsX7_begin) := g4_ (A := ixX10_warmer) wt956 wt957 wt958 wt32 (by decide +kernel) ggX10_warmer_X7_begin
theorem ggX10_warmer_X7_followKeeping : GoodIn wsX10_warmer wsX7_followKeeping := gi_ (A := ixX10_warmer) (B := ixX7_followKeeping) wt969 (by decide +kernel)
theorem gX10_warmer_X7_followKeeping : GoodIn wsX10_warmer (wsV RX10 199 RX7 yX7_followKeeping wsX7_followKeeping) := g4_ (A := ixX10_warmer) wt966 wt967 wt968 wt32 (by decide +kernel) ggX10_warmer_X7_followKeeping

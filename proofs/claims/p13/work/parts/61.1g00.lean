theorem ggL_law_X10_ahead : GoodIn wsL_law wsX10_ahead := gL_ (A := ixL_law) (B := ixX10_ahead) wt1358 (by decide +kernel)
theorem gL_law_X10_ahead : GoodIn wsL_law (wsV RL 152 RX10 yX10_ahead wsX10_ahead) := g4L (A := ixL_law) wt1355 wt1356 wt1357 wt2 (by decide +kernel) ggL_law_X10_ahead
theorem ggL_law_X10_all : GoodIn wsL_law wsX10_all := gL_ (A := ixL_law) (B := ixX10_all) wt1227 (by decide +kernel)
theorem gL_law_X10_all : GoodIn wsL_law (wsV RL 128 RX10 yX10_all wsX10_all) := g4L (A := ixL_law) wt1224 wt1225 wt1226 wt2 (by decide +kernel) ggL_law_X10_all
theorem ggL_law_X10_at : GoodIn wsL_law wsX10_at := gL_ (A := ixL_law) (B := ixX10_at) wt882 (by decide +kernel)
theorem gL_law_X10_at : GoodIn wsL_law (wsV RL 71 RX10 yX10_at wsX10_at) := g4L (A := ixL_law) wt879 wt880 wt881 wt2 (by decide +kernel) ggL_law_X10_at
theorem ggL_law_X10_back : GoodIn wsL_law wsX10_back := gL_ (A := ixL_law) (B := ixX10_back) wt1405 (by decide +kernel)
theorem gL_law_X10_back : GoodIn wsL_law (wsV RL 164 RX10 yX10_back wsX10_back) := g4L (A := ixL_law) wt1402 wt1403 wt1404 wt2 (by decide +kernel) ggL_law_X10_back
theorem ggL_law_X10_best : GoodIn wsL_law wsX10_best := gL_ (A := ixL_law) (B := ixX10_best) wt1019 (by decide +kernel)
theorem gL_law_X10_best : GoodIn wsL_law (wsV RL 97 RX10 yX10_best wsX10_best) := g4L (A := ixL_law) wt1016 wt1017 wt1018 wt2 (by decide +kernel) ggL_law_X10_best
theorem ggL_law_X10_count : GoodIn wsL_law wsX10_count := gL_ (A := ixL_law) (B := ixX10_count) wt1388 (by decide +kernel)
theorem gL_law_X10_count : GoodIn wsL_law (wsV RL 156 RX10 yX10_count wsX10_count) := g4L (A := ixL_law) wt1385 wt1386 wt1387 wt2 (by decide +kernel) ggL_law_X10_count
theorem ggL_law_X10_end : GoodIn wsL_law wsX10_end := gL_ (A := ixL_law) (B := ixX10_end) wt272 (by decide +kernel)
theorem gL_law_X10_end : GoodIn wsL_law (wsV RL 40 RX10 yX10_end wsX10_end) := g4L (A := ixL_law) wt269 wt270 wt271 wt2 (by decide +kernel) ggL_law_X10_end
theorem ggL_law_X10_enough : GoodIn wsL_law wsX10_enough := gL_ (A := ixL_law) (B := ixX10_enough) wt1302 (by decide +kernel)
theorem gL_law_X10_enough : GoodIn wsL_law (wsV RL 136 RX10 yX10_enough wsX10_enough) := g4L (A := ixL_law) wt1299 wt1300 wt1301 wt2 (by decide +kernel) ggL_law_X10_enough
theorem ggL_law_X10_feast : GoodIn wsL_law wsX10_feast := gL_ (A := ixL_law) (B := ixX10_feast) wt1292 (by decide +kernel)
theorem gL_law_X10_feast : GoodIn wsL_law (wsV RL 132 RX10 yX10_feast wsX10_feast) := g4L (A := ixL_law) wt1289 wt1290 wt1291 wt2 (by decide +kernel) ggL_law_X10_feast
theorem ggL_law_X10_feed : GoodIn wsL_law wsX10_feed := gL_ (A := ixL_law) (B := ixX10_feed) wt254 (by decide +kernel)
theorem gL_law_X10_feed : GoodIn wsL_law (wsV RL 36 RX10 yX10_feed wsX10_feed) := g4L (A := ixL_law) wt251 wt252 wt253 wt2 (by decide +kernel) ggL_law_X10_feed
theorem ggL_law_X10_fill : GoodIn wsL_law wsX10_fill := gL_ (A := ixL_law) (B := ixX10_fill) wt586 (by decide +kernel)
theorem gL_law_X10_fill : GoodIn wsL_law (wsV RL 49 RX10 yX10_fill wsX10_fill) := g4L (A := ixL_law) wt583 wt584 wt585 wt2 (by decide +kernel) ggL_law_X10_fill
theorem ggL_law_X10_from : GoodIn wsL_law wsX10_from := gL_ (A := ixL_law) (B := ixX10_from) wt941 (by decide +kernel)
theorem gL_law_X10_from : GoodIn wsL_law (wsV RL 87 RX10 yX10_from wsX10_from) := g4L (A := ixL_law) wt938 wt939 wt940 wt2 (by decide +kernel) ggL_law_X10_from
theorem ggL_law_X10_guess : GoodIn wsL_law wsX10_guess := gL_ (A := ixL_law) (B := ixX10_guess) wt1138 (by decide +kernel)
theorem gL_law_X10_guess : GoodIn wsL_law (wsV RL 114 RX10 yX10_guess wsX10_guess) := g4L (A := ixL_law) wt1135 wt1136 wt1137 wt2 (by decide +kernel) ggL_law_X10_guess
theorem ggL_law_X10_image : GoodIn wsL_law wsX10_image := gL_ (A := ixL_law) (B := ixX10_image) wt1396 (by decide +kernel)
theorem gL_law_X10_image : GoodIn wsL_law (wsV RL 160 RX10 yX10_image wsX10_image) := g4L (A := ixL_law) wt1393 wt1394 wt1395 wt2 (by decide +kernel) ggL_law_X10_image
theorem ggL_law_X10_init : GoodIn wsL_law wsX10_init := gL_ (A := ixL_law) (B := ixX10_init) wt8 (by decide +kernel)
theorem gL_law_X10_init : GoodIn wsL_law (wsX10_init) := ggL_law_X10_init
theorem ggL_law_X10_jar : GoodIn wsL_law wsX10_jar := gL_ (A := ixL_law) (B := ixX10_jar) wt216 (by decide +kernel)
theorem gL_law_X10_jar : GoodIn wsL_law (wsV RL 23 RX10 yX10_jar wsX10_jar) := g4L (A := ixL_law) wt213 wt214 wt215 wt2 (by decide +kernel) ggL_law_X10_jar
theorem ggL_law_X10_law : GoodIn wsL_law wsX10_law := gL_ (A := ixL_law) (B := ixX10_law) wt280 (by decide +kernel)
theorem gL_law_X10_law : GoodIn wsL_law (wsV RL 44 RX10 yX10_law wsX10_law) := g4L (A := ixL_law) wt277 wt278 wt279 wt2 (by decide +kernel) ggL_law_X10_law
theorem ggL_law_X10_lay : GoodIn wsL_law wsX10_lay := gL_ (A := ixL_law) (B := ixX10_lay) wt914 (by decide +kernel)
theorem gL_law_X10_lay : GoodIn wsL_law (wsV RL 83 RX10 yX10_lay wsX10_lay) := g4L (A := ixL_law) wt911 wt912 wt913 wt2 (by decide +kernel) ggL_law_X10_lay
theorem ggL_law_X10_least : GoodIn wsL_law wsX10_least := gL_ (A := ixL_law) (B := ixX10_least) wt1327 (by decide +kernel)
theorem gL_law_X10_least : GoodIn wsL_law (wsV RL 140 RX10 yX10_least wsX10_least) := g4L (A := ixL_law) wt1324 wt1325 wt1326 wt2 (by decide +kernel) ggL_law_X10_least
theorem ggL_law_X10_leave : GoodIn wsL_law wsX10_leave := gL_ (A := ixL_law) (B := ixX10_leave) wt669 (by decide +kernel)
theorem gL_law_X10_leave : GoodIn wsL_law (wsV RL 62 RX10 yX10_leave wsX10_leave) := g4L (A := ixL_law) wt666 wt667 wt668 wt2 (by decide +kernel) ggL_law_X10_leave
theorem ggL_law_X10_melt : GoodIn wsL_law wsX10_melt := gL_ (A := ixL_law) (B := ixX10_melt) wt905 (by decide +kernel)
theorem gL_law_X10_melt : GoodIn wsL_law (wsV RL 79 RX10 yX10_melt wsX10_melt) := g4L (A := ixL_law) wt902 wt903 wt904 wt2 (by decide +kernel) ggL_law_X10_melt
theorem ggL_law_X10_month : GoodIn wsL_law wsX10_month := gL_ (A := ixL_law) (B := ixX10_month) wt235 (by decide +kernel)
theorem gL_law_X10_month : GoodIn wsL_law (wsV RL 27 RX10 yX10_month wsX10_month) := g4L (A := ixL_law) wt232 wt233 wt234 wt2 (by decide +kernel) ggL_law_X10_month
theorem ggL_law_X10_nearest : GoodIn wsL_law wsX10_nearest := gL_ (A := ixL_law) (B := ixX10_nearest) wt1119 (by decide +kernel)
theorem gL_law_X10_nearest : GoodIn wsL_law (wsV RL 106 RX10 yX10_nearest wsX10_nearest) := g4L (A := ixL_law) wt1116 wt1117 wt1118 wt2 (by decide +kernel) ggL_law_X10_nearest
theorem ggL_law_X10_nights : GoodIn wsL_law wsX10_nights := gL_ (A := ixL_law) (B := ixX10_nights) wt1336 (by decide +kernel)
theorem gL_law_X10_nights : GoodIn wsL_law (wsV RL 144 RX10 yX10_nights wsX10_nights) := g4L (A := ixL_law) wt1333 wt1334 wt1335 wt2 (by decide +kernel) ggL_law_X10_nights
theorem ggL_law_X10_node : GoodIn wsL_law wsX10_node := gL_ (A := ixL_law) (B := ixX10_node) wt170 (by decide +kernel)
theorem gL_law_X10_node : GoodIn wsL_law (wsV RL 13 RX10 yX10_node wsX10_node) := g4L (A := ixL_law) wt167 wt168 wt169 wt2 (by decide +kernel) ggL_law_X10_node
theorem ggL_law_X10_of : GoodIn wsL_law wsX10_of := gL_ (A := ixL_law) (B := ixX10_of) wt896 (by decide +kernel)
theorem gL_law_X10_of : GoodIn wsL_law (wsV RL 75 RX10 yX10_of wsX10_of) := g4L (A := ixL_law) wt893 wt894 wt895 wt2 (by decide +kernel) ggL_law_X10_of
theorem ggL_law_X10_order : GoodIn wsL_law wsX10_order := gL_ (A := ixL_law) (B := ixX10_order) wt1192 (by decide +kernel)
theorem gL_law_X10_order : GoodIn wsL_law (wsV RL 119 RX10 yX10_order wsX10_order) := g4L (A := ixL_law) wt1189 wt1190 wt1191 wt2 (by decide +kernel) ggL_law_X10_order
theorem ggL_law_X10_pass : GoodIn wsL_law wsX10_pass := gL_ (A := ixL_law) (B := ixX10_pass) wt197 (by decide +kernel)
theorem gL_law_X10_pass : GoodIn wsL_law (wsV RL 18 RX10 yX10_pass wsX10_pass) := g4L (A := ixL_law) wt194 wt195 wt196 wt2 (by decide +kernel) ggL_law_X10_pass
theorem ggL_law_X10_pour : GoodIn wsL_law wsX10_pour := gL_ (A := ixL_law) (B := ixX10_pour) wt640 (by decide +kernel)
theorem gL_law_X10_pour : GoodIn wsL_law (wsV RL 54 RX10 yX10_pour wsX10_pour) := g4L (A := ixL_law) wt637 wt638 wt639 wt2 (by decide +kernel) ggL_law_X10_pour
theorem ggL_law_X10_price : GoodIn wsL_law wsX10_price := gL_ (A := ixL_law) (B := ixX10_price) wt1350 (by decide +kernel)
theorem gL_law_X10_price : GoodIn wsL_law (wsV RL 148 RX10 yX10_price wsX10_price) := g4L (A := ixL_law) wt1347 wt1348 wt1349 wt2 (by decide +kernel) ggL_law_X10_price
theorem ggL_law_X10_seed : GoodIn wsL_law wsX10_seed := gL_ (A := ixL_law) (B := ixX10_seed) wt245 (by decide +kernel)
theorem gL_law_X10_seed : GoodIn wsL_law (wsV RL 32 RX10 yX10_seed wsX10_seed) := g4L (A := ixL_law) wt242 wt243 wt244 wt2 (by decide +kernel) ggL_law_X10_seed
theorem ggL_law_X10_serves : GoodIn wsL_law wsX10_serves := gL_ (A := ixL_law) (B := ixX10_serves) wt1205 (by decide +kernel)
theorem gL_law_X10_serves : GoodIn wsL_law (wsV RL 124 RX10 yX10_serves wsX10_serves) := g4L (A := ixL_law) wt1202 wt1203 wt1204 wt2 (by decide +kernel) ggL_law_X10_serves
theorem ggL_law_X10_soonest : GoodIn wsL_law wsX10_soonest := gL_ (A := ixL_law) (B := ixX10_soonest) wt1104 (by decide +kernel)
theorem gL_law_X10_soonest : GoodIn wsL_law (wsV RL 102 RX10 yX10_soonest wsX10_soonest) := g4L (A := ixL_law) wt1101 wt1102 wt1103 wt2 (by decide +kernel) ggL_law_X10_soonest
theorem ggL_law_X10_store : GoodIn wsL_law wsX10_store := gL_ (A := ixL_law) (B := ixX10_store) wt659 (by decide +kernel)
theorem gL_law_X10_store : GoodIn wsL_law (wsV RL 58 RX10 yX10_store wsX10_store) := g4L (A := ixL_law) wt656 wt657 wt658 wt2 (by decide +kernel) ggL_law_X10_store
theorem ggL_law_X10_tick : GoodIn wsL_law wsX10_tick := gL_ (A := ixL_law) (B := ixX10_tick) wt693 (by decide +kernel)
theorem gL_law_X10_tick : GoodIn wsL_law (wsV RL 67 RX10 yX10_tick wsX10_tick) := g4L (A := ixL_law) wt690 wt691 wt692 wt2 (by decide +kernel) ggL_law_X10_tick
theorem ggL_law_X10_tried : GoodIn wsL_law wsX10_tried := gL_ (A := ixL_law) (B := ixX10_tried) wt950 (by decide +kernel)
theorem gL_law_X10_tried : GoodIn wsL_law (wsV RL 92 RX10 yX10_tried wsX10_tried) := g4L (A := ixL_law) wt947 wt948 wt949 wt2 (by decide +kernel) ggL_law_X10_tried
theorem ggL_law_X10_warmer : GoodIn wsL_law wsX10_warmer := gL_ (A := ixL_law) (B := ixX10_warmer) wt1127 (by decide +kernel)
theorem gL_law_X10_warmer : GoodIn wsL_law (wsV RL 110 RX10 yX10_warmer wsX10_warmer) := g4L (A := ixL_law) wt1124 wt1125 wt1126 wt2 (by decide +kernel) ggL_law_X10_warmer
theorem ggL_law_X11_ahead : GoodIn wsL_law wsX11_ahead := gL_ (A := ixL_law) (B := ixX11_ahead) wt1384 (by decide +kernel)
theorem gL_law_X11_ahead : GoodIn wsL_law (wsV RL 155 RX11 yX11_ahead wsX11_ahead) := g4L (A := ixL_law) wt1381 wt1382 wt1383 wt5 (by decide +kernel) ggL_law_X11_ahead
theorem ggL_law_X11_all : GoodIn wsL_law wsX11_all := gL_ (A := ixL_law) (B := ixX11_all) wt1276 (by decide +kernel)
theorem gL_law_X11_all : GoodIn wsL_law (wsV RL 131 RX11 yX11_all wsX11_all) := g4L (A := ixL_law) wt1273 wt1274 wt1275 wt5 (by decide +kernel) ggL_law_X11_all
theorem ggL_law_X11_at : GoodIn wsL_law wsX11_at := gL_ (A := ixL_law) (B := ixX11_at) wt891 (by decide +kernel)
theorem gL_law_X11_at : GoodIn wsL_law (wsV RL 74 RX11 yX11_at wsX11_at) := g4L (A := ixL_law) wt888 wt889 wt890 wt5 (by decide +kernel) ggL_law_X11_at
theorem ggL_law_X11_back : GoodIn wsL_law wsX11_back := gL_ (A := ixL_law) (B := ixX11_back) wt1409 (by decide +kernel)
theorem gL_law_X11_back : GoodIn wsL_law (wsV RL 167 RX11 yX11_back wsX11_back) := g4L (A := ixL_law) wt1406 wt1407 wt1408 wt5 (by decide +kernel) ggL_law_X11_back
theorem ggL_law_X11_best : GoodIn wsL_law wsX11_best := gL_ (A := ixL_law) (B := ixX11_best) wt1084 (by decide +kernel)
theorem gL_law_X11_best : GoodIn wsL_law (wsV RL 101 RX11 yX11_best wsX11_best) := g4L (A := ixL_law) wt1081 wt1082 wt1083 wt5 (by decide +kernel) ggL_law_X11_best
theorem ggL_law_X11_count : GoodIn wsL_law wsX11_count := gL_ (A := ixL_law) (B := ixX11_count) wt1392 (by decide +kernel)
theorem gL_law_X11_count : GoodIn wsL_law (wsV RL 159 RX11 yX11_count wsX11_count) := g4L (A := ixL_law) wt1389 wt1390 wt1391 wt5 (by decide +kernel) ggL_law_X11_count
theorem ggL_law_X11_end : GoodIn wsL_law wsX11_end := gL_ (A := ixL_law) (B := ixX11_end) wt276 (by decide +kernel)
theorem gL_law_X11_end : GoodIn wsL_law (wsV RL 43 RX11 yX11_end wsX11_end) := g4L (A := ixL_law) wt273 wt274 wt275 wt5 (by decide +kernel) ggL_law_X11_end
theorem ggL_law_X11_enough : GoodIn wsL_law wsX11_enough := gL_ (A := ixL_law) (B := ixX11_enough) wt1319 (by decide +kernel)
theorem gL_law_X11_enough : GoodIn wsL_law (wsV RL 139 RX11 yX11_enough wsX11_enough) := g4L (A := ixL_law) wt1316 wt1317 wt1318 wt5 (by decide +kernel) ggL_law_X11_enough
theorem ggL_law_X11_feast : GoodIn wsL_law wsX11_feast := gL_ (A := ixL_law) (B := ixX11_feast) wt1297 (by decide +kernel)
theorem gL_law_X11_feast : GoodIn wsL_law (wsV RL 135 RX11 yX11_feast wsX11_feast) := g4L (A := ixL_law) wt1294 wt1295 wt1296 wt5 (by decide +kernel) ggL_law_X11_feast
theorem ggL_law_X11_feed : GoodIn wsL_law wsX11_feed := gL_ (A := ixL_law) (B := ixX11_feed) wt263 (by decide +kernel)
theorem gL_law_X11_feed : GoodIn wsL_law (wsV RL 39 RX11 yX11_feed wsX11_feed) := g4L (A := ixL_law) wt260 wt261 wt262 wt5 (by decide +kernel) ggL_law_X11_feed
theorem ggL_law_X11_fill : GoodIn wsL_law wsX11_fill := gL_ (A := ixL_law) (B := ixX11_fill) wt611 (by decide +kernel)
theorem gL_law_X11_fill : GoodIn wsL_law (wsV RL 53 RX11 yX11_fill wsX11_fill) := g4L (A := ixL_law) wt608 wt609 wt610 wt5 (by decide +kernel) ggL_law_X11_fill
theorem ggL_law_X11_from : GoodIn wsL_law wsX11_from := gL_ (A := ixL_law) (B := ixX11_from) wt946 (by decide +kernel)
theorem gL_law_X11_from : GoodIn wsL_law (wsV RL 91 RX11 yX11_from wsX11_from) := g4L (A := ixL_law) wt943 wt944 wt945 wt5 (by decide +kernel) ggL_law_X11_from
theorem ggL_law_X11_guess : GoodIn wsL_law wsX11_guess := gL_ (A := ixL_law) (B := ixX11_guess) wt1179 (by decide +kernel)
theorem gL_law_X11_guess : GoodIn wsL_law (wsV RL 118 RX11 yX11_guess wsX11_guess) := g4L (A := ixL_law) wt1176 wt1177 wt1178 wt5 (by decide +kernel) ggL_law_X11_guess
theorem ggL_law_X11_image : GoodIn wsL_law wsX11_image := gL_ (A := ixL_law) (B := ixX11_image) wt1400 (by decide +kernel)
theorem gL_law_X11_image : GoodIn wsL_law (wsV RL 163 RX11 yX11_image wsX11_image) := g4L (A := ixL_law) wt1397 wt1398 wt1399 wt5 (by decide +kernel) ggL_law_X11_image
theorem ggL_law_X11_init : GoodIn wsL_law wsX11_init := gL_ (A := ixL_law) (B := ixX11_init) wt140 (by decide +kernel)
theorem gL_law_X11_init : GoodIn wsL_law (wsX11_init) := ggL_law_X11_init
theorem ggL_law_X11_jar : GoodIn wsL_law wsX11_jar := gL_ (A := ixL_law) (B := ixX11_jar) wt229 (by decide +kernel)
theorem gL_law_X11_jar : GoodIn wsL_law (wsV RL 26 RX11 yX11_jar wsX11_jar) := g4L (A := ixL_law) wt226 wt227 wt228 wt5 (by decide +kernel) ggL_law_X11_jar
theorem ggL_law_X11_law : GoodIn wsL_law wsX11_law := gL_ (A := ixL_law) (B := ixX11_law) wt457 (by decide +kernel)
theorem gL_law_X11_law : GoodIn wsL_law (wsV RL 48 RX11 yX11_law wsX11_law) := g4L (A := ixL_law) wt454 wt455 wt456 wt5 (by decide +kernel) ggL_law_X11_law
theorem ggL_law_X11_lay : GoodIn wsL_law wsX11_lay := gL_ (A := ixL_law) (B := ixX11_lay) wt929 (by decide +kernel)
theorem gL_law_X11_lay : GoodIn wsL_law (wsV RL 86 RX11 yX11_lay wsX11_lay) := g4L (A := ixL_law) wt926 wt927 wt928 wt5 (by decide +kernel) ggL_law_X11_lay
theorem ggL_law_X11_least : GoodIn wsL_law wsX11_least := gL_ (A := ixL_law) (B := ixX11_least) wt1331 (by decide +kernel)
theorem gL_law_X11_least : GoodIn wsL_law (wsV RL 143 RX11 yX11_least wsX11_least) := g4L (A := ixL_law) wt1328 wt1329 wt1330 wt5 (by decide +kernel) ggL_law_X11_least
theorem ggL_law_X11_leave : GoodIn wsL_law wsX11_leave := gL_ (A := ixL_law) (B := ixX11_leave) wt677 (by decide +kernel)
theorem gL_law_X11_leave : GoodIn wsL_law (wsV RL 66 RX11 yX11_leave wsX11_leave) := g4L (A := ixL_law) wt674 wt675 wt676 wt5 (by decide +kernel) ggL_law_X11_leave
theorem ggL_law_X11_melt : GoodIn wsL_law wsX11_melt := gL_ (A := ixL_law) (B := ixX11_melt) wt910 (by decide +kernel)
theorem gL_law_X11_melt : GoodIn wsL_law (wsV RL 82 RX11 yX11_melt wsX11_melt) := g4L (A := ixL_law) wt907 wt908 wt909 wt5 (by decide +kernel) ggL_law_X11_melt
theorem ggL_law_X11_month : GoodIn wsL_law wsX11_month := gL_ (A := ixL_law) (B := ixX11_month) wt240 (by decide +kernel)
theorem gL_law_X11_month : GoodIn wsL_law (wsV RL 31 RX11 yX11_month wsX11_month) := g4L (A := ixL_law) wt237 wt238 wt239 wt5 (by decide +kernel) ggL_law_X11_month
theorem ggL_law_X11_nearest : GoodIn wsL_law wsX11_nearest := gL_ (A := ixL_law) (B := ixX11_nearest) wt1123 (by decide +kernel)
theorem gL_law_X11_nearest : GoodIn wsL_law (wsV RL 109 RX11 yX11_nearest wsX11_nearest) := g4L (A := ixL_law) wt1120 wt1121 wt1122 wt5 (by decide +kernel) ggL_law_X11_nearest
theorem ggL_law_X11_nights : GoodIn wsL_law wsX11_nights := gL_ (A := ixL_law) (B := ixX11_nights) wt1345 (by decide +kernel)
theorem gL_law_X11_nights : GoodIn wsL_law (wsV RL 147 RX11 yX11_nights wsX11_nights) := g4L (A := ixL_law) wt1342 wt1343 wt1344 wt5 (by decide +kernel) ggL_law_X11_nights
theorem ggL_law_X11_node : GoodIn wsL_law wsX11_node := gL_ (A := ixL_law) (B := ixX11_node) wt187 (by decide +kernel)
theorem gL_law_X11_node : GoodIn wsL_law (wsV RL 17 RX11 yX11_node wsX11_node) := g4L (A := ixL_law) wt184 wt185 wt186 wt5 (by decide +kernel) ggL_law_X11_node
theorem ggL_law_X11_of : GoodIn wsL_law wsX11_of := gL_ (A := ixL_law) (B := ixX11_of) wt900 (by decide +kernel)
theorem gL_law_X11_of : GoodIn wsL_law (wsV RL 78 RX11 yX11_of wsX11_of) := g4L (A := ixL_law) wt897 wt898 wt899 wt5 (by decide +kernel) ggL_law_X11_of
theorem ggL_law_X11_order : GoodIn wsL_law wsX11_order := gL_ (A := ixL_law) (B := ixX11_order) wt1200 (by decide +kernel)
theorem gL_law_X11_order : GoodIn wsL_law (wsV RL 123 RX11 yX11_order wsX11_order) := g4L (A := ixL_law) wt1197 wt1198 wt1199 wt5 (by decide +kernel) ggL_law_X11_order
theorem ggL_law_X11_pass : GoodIn wsL_law wsX11_pass := gL_ (A := ixL_law) (B := ixX11_pass) wt206 (by decide +kernel)
theorem gL_law_X11_pass : GoodIn wsL_law (wsV RL 22 RX11 yX11_pass wsX11_pass) := g4L (A := ixL_law) wt203 wt204 wt205 wt5 (by decide +kernel) ggL_law_X11_pass
theorem ggL_law_X11_pour : GoodIn wsL_law wsX11_pour := gL_ (A := ixL_law) (B := ixX11_pour) wt650 (by decide +kernel)
theorem gL_law_X11_pour : GoodIn wsL_law (wsV RL 57 RX11 yX11_pour wsX11_pour) := g4L (A := ixL_law) wt647 wt648 wt649 wt5 (by decide +kernel) ggL_law_X11_pour
theorem ggL_law_X11_price : GoodIn wsL_law wsX11_price := gL_ (A := ixL_law) (B := ixX11_price) wt1354 (by decide +kernel)
theorem gL_law_X11_price : GoodIn wsL_law (wsV RL 151 RX11 yX11_price wsX11_price) := g4L (A := ixL_law) wt1351 wt1352 wt1353 wt5 (by decide +kernel) ggL_law_X11_price
theorem ggL_law_X11_seed : GoodIn wsL_law wsX11_seed := gL_ (A := ixL_law) (B := ixX11_seed) wt250 (by decide +kernel)
theorem gL_law_X11_seed : GoodIn wsL_law (wsV RL 35 RX11 yX11_seed wsX11_seed) := g4L (A := ixL_law) wt247 wt248 wt249 wt5 (by decide +kernel) ggL_law_X11_seed
theorem ggL_law_X11_serves : GoodIn wsL_law wsX11_serves := gL_ (A := ixL_law) (B := ixX11_serves) wt1219 (by decide +kernel)
theorem gL_law_X11_serves : GoodIn wsL_law (wsV RL 127 RX11 yX11_serves wsX11_serves) := g4L (A := ixL_law) wt1216 wt1217 wt1218 wt5 (by decide +kernel) ggL_law_X11_serves
theorem ggL_law_X11_soonest : GoodIn wsL_law wsX11_soonest := gL_ (A := ixL_law) (B := ixX11_soonest) wt1111 (by decide +kernel)
theorem gL_law_X11_soonest : GoodIn wsL_law (wsV RL 105 RX11 yX11_soonest wsX11_soonest) := g4L (A := ixL_law) wt1108 wt1109 wt1110 wt5 (by decide +kernel) ggL_law_X11_soonest
theorem ggL_law_X11_store : GoodIn wsL_law wsX11_store := gL_ (A := ixL_law) (B := ixX11_store) wt664 (by decide +kernel)
theorem gL_law_X11_store : GoodIn wsL_law (wsV RL 61 RX11 yX11_store wsX11_store) := g4L (A := ixL_law) wt661 wt662 wt663 wt5 (by decide +kernel) ggL_law_X11_store
theorem ggL_law_X11_tick : GoodIn wsL_law wsX11_tick := gL_ (A := ixL_law) (B := ixX11_tick) wt804 (by decide +kernel)
theorem gL_law_X11_tick : GoodIn wsL_law (wsV RL 70 RX11 yX11_tick wsX11_tick) := g4L (A := ixL_law) wt801 wt802 wt803 wt5 (by decide +kernel) ggL_law_X11_tick
theorem ggL_law_X11_tried : GoodIn wsL_law wsX11_tried := gL_ (A := ixL_law) (B := ixX11_tried) wt994 (by decide +kernel)
theorem gL_law_X11_tried : GoodIn wsL_law (wsV RL 96 RX11 yX11_tried wsX11_tried) := g4L (A := ixL_law) wt991 wt992 wt993 wt5 (by decide +kernel) ggL_law_X11_tried
theorem ggL_law_X11_warmer : GoodIn wsL_law wsX11_warmer := gL_ (A := ixL_law) (B := ixX11_warmer) wt1134 (by decide +kernel)
theorem gL_law_X11_warmer : GoodIn wsL_law (wsV RL 113 RX11 yX11_warmer wsX11_warmer) := g4L (A := ixL_law) wt1131 wt1132 wt1133 wt5 (by decide +kernel) ggL_law_X11_warmer

set_option maxRecDepth 20000 in
theorem ggX11_value_X11_fails : GoodIn wsX11_value wsX11_fails := goodIn_r _ [22, 23, 66, 67, 68, 69, 70, 71, 72, 73, 74, 75, 76, 77, 78, 79, 80, 81, 82, 83, 84, 85, 86, 87, 88, 89, 90, 91, 92, 93, 94, 95, 96, 97, 98, 99, 100, 101, 102, 103, 104, 105, 106, 107] (by decide +kernel) (by decide +kernel)
set_option maxRecDepth 20000 in
theorem gX11_value_X11_fails : GoodIn wsX11_value (wsV RX11 111 RX11 yX11_fails wsX11_fails) := goodIn_app (goodIn_of _ (by decide +kernel)) ggX11_value_X11_fails
set_option maxRecDepth 20000 in
theorem ggX11_value_X11_isDigit : GoodIn wsX11_value wsX11_isDigit := goodIn_r _ [14, 9, 10, 66, 67, 68, 69, 70, 71, 72, 73, 74, 75, 76, 77, 78, 79, 80, 81, 82, 83, 84, 85, 86, 87, 88, 89, 90, 91, 92, 93, 94, 95, 96, 97, 98, 99, 100, 101, 102, 103, 104, 105, 106, 107] (by decide +kernel) (by decide +kernel)
set_option maxRecDepth 20000 in
theorem gX11_value_X11_isDigit : GoodIn wsX11_value (wsV RX11 108 RX11 yX11_isDigit wsX11_isDigit) := goodIn_app (goodIn_of _ (by decide +kernel)) ggX11_value_X11_isDigit
set_option maxRecDepth 20000 in
theorem ggX11_value_X11_makes : GoodIn wsX11_value wsX11_makes := goodIn_r _ [30, 31, 19, 20, 21, 7, 22, 23, 66, 67, 68, 69, 70, 71, 72, 73, 74, 75, 76, 77, 78, 79, 80, 81, 82, 83, 84, 85, 86, 87, 88, 89, 90, 91, 92, 93, 94, 95, 96, 97, 98, 99, 100, 101, 102, 103, 104, 105, 106, 107] (by decide +kernel) (by decide +kernel)
set_option maxRecDepth 20000 in
theorem gX11_value_X11_makes : GoodIn wsX11_value (wsV RX11 168 RX11 yX11_makes wsX11_makes) := goodIn_app (goodIn_of _ (by decide +kernel)) ggX11_value_X11_makes
set_option maxRecDepth 20000 in
theorem ggX11_value_X11_numberHere : GoodIn wsX11_value wsX11_numberHere := goodIn_r _ [18, 1, 10, 3, 4, 5, 6, 7, 8, 9, 11, 12, 13, 14, 19, 20, 21, 22, 23, 24, 25, 26, 66, 67, 68, 69, 70, 71, 72, 73, 74, 75, 76, 77, 78, 79, 80, 81, 82, 83, 84, 85, 86, 87, 88, 89, 90, 91, 92, 93, 94, 95, 96, 97, 98, 99, 100, 101, 102, 103, 104, 105, 106, 107] (by decide +kernel) (by decide +kernel)
set_option maxRecDepth 20000 in
theorem gX11_value_X11_numberHere : GoodIn wsX11_value (wsV RX11 165 RX11 yX11_numberHere wsX11_numberHere) := goodIn_app (goodIn_of _ (by decide +kernel)) ggX11_value_X11_numberHere
set_option maxRecDepth 20000 in
theorem ggX11_value_X11_passWord : GoodIn wsX11_value wsX11_passWord := goodIn_r _ [65, 1, 58, 59, 60, 7, 61, 9, 10, 66, 67, 68, 69, 70, 71, 72, 73, 74, 75, 76, 77, 78, 79, 80, 81, 82, 83, 84, 85, 86, 87, 88, 89, 90, 91, 92, 93, 94, 95, 96, 97, 98, 99, 100, 101, 102, 103, 104, 105, 106, 107] (by decide +kernel) (by decide +kernel)
set_option maxRecDepth 20000 in
theorem gX11_value_X11_passWord : GoodIn wsX11_value (wsV RX11 105 RX11 yX11_passWord wsX11_passWord) := goodIn_app (goodIn_of _ (by decide +kernel)) ggX11_value_X11_passWord
set_option maxRecDepth 20000 in
theorem ggX11_value_X11_puts : GoodIn wsX11_value wsX11_puts := goodIn_r _ [35, 36, 37, 38, 66, 67, 68, 69, 70, 71, 72, 73, 74, 75, 76, 77, 78, 79, 80, 81, 82, 83, 84, 85, 86, 87, 88, 89, 90, 91, 92, 93, 94, 95, 96, 97, 98, 99, 100, 101, 102, 103, 104, 105, 106, 107] (by decide +kernel) (by decide +kernel)
set_option maxRecDepth 20000 in
theorem gX11_value_X11_puts : GoodIn wsX11_value (wsV RX11 160 RX11 yX11_puts wsX11_puts) := goodIn_app (goodIn_of _ (by decide +kernel)) ggX11_value_X11_puts
set_option maxRecDepth 20000 in
theorem ggX11_value_X11_see : GoodIn wsX11_value wsX11_see := goodIn_r _ [8, 1, 9, 10, 66, 67, 68, 69, 70, 71, 72, 73, 74, 75, 76, 77, 78, 79, 80, 81, 82, 83, 84, 85, 86, 87, 88, 89, 90, 91, 92, 93, 94, 95, 96, 97, 98, 99, 100, 101, 102, 103, 104, 105, 106, 107] (by decide +kernel) (by decide +kernel)
set_option maxRecDepth 20000 in
theorem gX11_value_X11_see : GoodIn wsX11_value (wsV RX11 93 RX11 yX11_see wsX11_see) := goodIn_app (goodIn_of _ (by decide +kernel)) ggX11_value_X11_see
set_option maxRecDepth 20000 in
theorem ggX11_value_X11_wordHere : GoodIn wsX11_value wsX11_wordHere := goodIn_r _ [42, 43, 44, 45, 46, 47, 48, 49, 50, 51, 52, 53, 54, 55, 56, 7, 57, 1, 10, 4, 5, 6, 8, 9, 58, 59, 60, 61, 66, 67, 68, 69, 70, 71, 72, 73, 74, 75, 76, 77, 78, 79, 80, 81, 82, 83, 84, 85, 86, 87, 88, 89, 90, 91, 92, 93, 94, 95, 96, 97, 98, 99, 100, 101, 102, 103, 104, 105, 106, 107] (by decide +kernel) (by decide +kernel)
set_option maxRecDepth 20000 in
theorem gX11_value_X11_wordHere : GoodIn wsX11_value (wsV RX11 171 RX11 yX11_wordHere wsX11_wordHere) := goodIn_app (goodIn_of _ (by decide +kernel)) ggX11_value_X11_wordHere

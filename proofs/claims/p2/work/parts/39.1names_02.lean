set_option maxRecDepth 20000 in
theorem ggX2_read_X2_take : GoodIn wsX2_read wsX2_take := goodIn_r _ [178, 5, 103, 104, 105, 13, 106, 15, 87, 107, 108, 109, 110, 88, 6, 187, 188, 189, 190, 191, 192, 193, 194] (by decide +kernel) (by decide +kernel)
set_option maxRecDepth 20000 in
theorem gX2_read_X2_take : GoodIn wsX2_read (wsV RX2 62 RX2 yX2_take wsX2_take) := goodIn_app (goodIn_of _ (by decide +kernel)) ggX2_read_X2_take
set_option maxRecDepth 20000 in
theorem ggX2_read_X2_token : GoodIn wsX2_read wsX2_token := goodIn_r _ [106, 5, 15, 87, 187, 188, 189, 190, 191, 192, 193, 194] (by decide +kernel) (by decide +kernel)
set_option maxRecDepth 20000 in
theorem gX2_read_X2_token : GoodIn wsX2_read (wsV RX2 58 RX2 yX2_token wsX2_token) := goodIn_app (goodIn_of _ (by decide +kernel)) ggX2_read_X2_token
set_option maxRecDepth 20000 in
theorem ggX2_stopOf_X2_isDigit : GoodIn wsX2_stopOf wsX2_isDigit := goodIn_r _ [7] (by decide +kernel) (by decide +kernel)
set_option maxRecDepth 20000 in
theorem gX2_stopOf_X2_isDigit : GoodIn wsX2_stopOf (va_wsS RX2 82 yX2_isDigit wsX2_isDigit) := goodIn_app (goodIn_of _ (by decide +kernel)) ggX2_stopOf_X2_isDigit
set_option maxRecDepth 20000 in
theorem ggX2_stopOf_X2_isLetter : GoodIn wsX2_stopOf wsX2_isLetter := goodIn_r _ [4] (by decide +kernel) (by decide +kernel)
set_option maxRecDepth 20000 in
theorem gX2_stopOf_X2_isLetter : GoodIn wsX2_stopOf (va_wsS RX2 79 yX2_isLetter wsX2_isLetter) := goodIn_app (goodIn_of _ (by decide +kernel)) ggX2_stopOf_X2_isLetter
set_option maxRecDepth 20000 in
theorem ggX2_take_X2_refuse : GoodIn wsX2_take wsX2_refuse := goodIn_r _ [12, 1, 13, 14, 15, 16, 17, 18, 19, 20, 21, 22] (by decide +kernel) (by decide +kernel)
set_option maxRecDepth 20000 in
theorem gX2_take_X2_refuse : GoodIn wsX2_take (wsV RX2 102 RX2 yX2_refuse wsX2_refuse) := goodIn_app (goodIn_of _ (by decide +kernel)) ggX2_take_X2_refuse
set_option maxRecDepth 20000 in
theorem ggX2_take_X2_token : GoodIn wsX2_take wsX2_token := goodIn_r _ [6, 1, 7, 8, 15, 16, 17, 18, 19, 20, 21, 22] (by decide +kernel) (by decide +kernel)
set_option maxRecDepth 20000 in
theorem gX2_take_X2_token : GoodIn wsX2_take (wsV RX2 58 RX2 yX2_token wsX2_token) := goodIn_app (goodIn_of _ (by decide +kernel)) ggX2_take_X2_token
set_option maxRecDepth 20000 in
theorem ggX2_tokenOf_X2_isDigit : GoodIn wsX2_tokenOf wsX2_isDigit := goodIn_r _ [59] (by decide +kernel) (by decide +kernel)
set_option maxRecDepth 20000 in
theorem gX2_tokenOf_X2_isDigit : GoodIn wsX2_tokenOf (va_wsS RX2 82 yX2_isDigit wsX2_isDigit) := goodIn_app (goodIn_of _ (by decide +kernel)) ggX2_tokenOf_X2_isDigit
set_option maxRecDepth 20000 in
theorem ggX2_tokenOf_X2_isLetter : GoodIn wsX2_tokenOf wsX2_isLetter := goodIn_r _ [4] (by decide +kernel) (by decide +kernel)
set_option maxRecDepth 20000 in
theorem gX2_tokenOf_X2_isLetter : GoodIn wsX2_tokenOf (va_wsS RX2 79 yX2_isLetter wsX2_isLetter) := goodIn_app (goodIn_of _ (by decide +kernel)) ggX2_tokenOf_X2_isLetter
set_option maxRecDepth 20000 in
theorem ggX2_tokenOf_X2_numberToken : GoodIn wsX2_tokenOf wsX2_numberToken := goodIn_r _ [62] (by decide +kernel) (by decide +kernel)
set_option maxRecDepth 20000 in
theorem gX2_tokenOf_X2_numberToken : GoodIn wsX2_tokenOf (va_wsS RX2 88 yX2_numberToken wsX2_numberToken) := goodIn_app (goodIn_of _ (by decide +kernel)) ggX2_tokenOf_X2_numberToken
set_option maxRecDepth 20000 in
theorem ggX2_tokenOf_X2_wordToken : GoodIn wsX2_tokenOf wsX2_wordToken := goodIn_r _ [7, 8, 9, 10, 11, 12, 13, 14, 15, 16, 17, 18, 19, 20, 21, 22, 23, 24, 25, 26, 27, 28, 29, 30, 31, 32, 33, 34, 35, 36, 37, 38, 39, 40, 41, 42, 43, 44, 45, 46, 47, 48, 49, 50, 51, 52, 53, 54, 55, 56] (by decide +kernel) (by decide +kernel)
set_option maxRecDepth 20000 in
theorem gX2_tokenOf_X2_wordToken : GoodIn wsX2_tokenOf (va_wsS RX2 85 yX2_wordToken wsX2_wordToken) := goodIn_app (goodIn_of _ (by decide +kernel)) ggX2_tokenOf_X2_wordToken

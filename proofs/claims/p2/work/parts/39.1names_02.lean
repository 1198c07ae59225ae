set_option maxRecDepth 20000 in
theorem ggX2_readValue_X2_refuse : GoodIn wsX2_readValue wsX2_refuse := goodIn_r _ [14, 3, 15, 16, 25, 26, 27, 28, 29, 30, 31, 32] (by decide +kernel) (by decide +kernel)
set_option maxRecDepth 20000 in
theorem gX2_readValue_X2_refuse : GoodIn wsX2_readValue (wsV RX2 102 RX2 yX2_refuse wsX2_refuse) := goodIn_app (goodIn_of _ (by decide +kernel)) ggX2_readValue_X2_refuse
set_option maxRecDepth 20000 in
theorem ggX2_readValue_X2_token : GoodIn wsX2_readValue wsX2_token := goodIn_r _ [8, 3, 9, 10, 25, 26, 27, 28, 29, 30, 31, 32] (by decide +kernel) (by decide +kernel)
set_option maxRecDepth 20000 in
theorem gX2_readValue_X2_token : GoodIn wsX2_readValue (wsV RX2 58 RX2 yX2_token wsX2_token) := goodIn_app (goodIn_of _ (by decide +kernel)) ggX2_readValue_X2_token
set_option maxRecDepth 20000 in
theorem ggX2_read_X1_clear : GoodIn wsX2_read wsX1_clear := goodIn_r _ [93, 94, 95, 96, 97, 98, 195, 196, 197, 198, 199, 200, 201, 202, 203, 204, 205, 206, 207, 208, 209, 210, 211] (by decide +kernel) (by decide +kernel)
set_option maxRecDepth 20000 in
theorem gX2_read_X1_clear : GoodIn wsX2_read (wsV RX2 51 RX1 yX1_clear wsX1_clear) := goodIn_app (goodIn_of _ (by decide +kernel)) ggX2_read_X1_clear
set_option maxRecDepth 20000 in
theorem ggX2_read_X2_cut : GoodIn wsX2_read wsX2_cut := goodIn_r _ [14, 15, 16, 17, 13, 18, 19, 20, 21, 22, 23, 24, 25, 26, 27, 28, 29, 30, 31, 32, 33, 34, 35, 36, 37, 38, 39, 40, 41, 42, 43, 44, 45, 46, 47, 48, 49, 50, 51, 52, 53, 54, 55, 56, 57, 58, 59, 60, 61, 62, 63, 64, 65, 66, 67, 68, 69, 70, 71, 72, 73, 74, 75, 76, 77, 78, 79, 80, 81, 82, 83, 84, 85, 86, 87, 88, 187, 188, 189, 190, 191, 192, 193, 194] (by decide +kernel) (by decide +kernel)
set_option maxRecDepth 20000 in
theorem gX2_read_X2_cut : GoodIn wsX2_read (wsV RX2 33 RX2 yX2_cut wsX2_cut) := goodIn_app (goodIn_of _ (by decide +kernel)) ggX2_read_X2_cut
set_option maxRecDepth 20000 in
theorem ggX2_read_X2_readClause : GoodIn wsX2_read wsX2_readClause := goodIn_r _ [102, 8, 5, 9, 103, 104, 105, 13, 106, 15, 87, 107, 108, 109, 110, 88, 6, 111, 112, 113, 114, 115, 116, 117, 118, 92, 119, 95, 120, 121, 96, 122, 123, 124, 125, 126, 127, 128, 129, 7, 130, 131, 132, 133, 134, 135, 136, 137, 138, 139, 140, 141, 142, 143, 144, 98, 145, 146, 147, 148, 149, 150, 151, 152, 153, 154, 155, 156, 157, 158, 159, 160, 161, 162, 163, 164, 165, 166, 167, 168, 169, 97, 170, 171, 172, 173, 174, 175, 176, 177, 178, 179, 180, 181, 182, 183, 184, 185, 186, 187, 188, 189, 190, 191, 192, 193, 194, 195, 196, 197, 198, 199, 200, 201, 202, 203, 204, 205, 206, 207, 208, 209, 210, 211] (by decide +kernel) (by decide +kernel)
set_option maxRecDepth 20000 in
theorem gX2_read_X2_readClause : GoodIn wsX2_read (wsV RX2 54 RX2 yX2_readClause wsX2_readClause) := goodIn_app (goodIn_of _ (by decide +kernel)) ggX2_read_X2_readClause
set_option maxRecDepth 20000 in
theorem ggX2_read_X2_take : GoodIn wsX2_read wsX2_take := goodIn_r _ [178, 5, 103, 104, 105, 13, 106, 15, 87, 107, 108, 109, 110, 88, 6, 187, 188, 189, 190, 191, 192, 193, 194] (by decide +kernel) (by decide +kernel)
set_option maxRecDepth 20000 in
theorem gX2_read_X2_take : GoodIn wsX2_read (wsV RX2 62 RX2 yX2_take wsX2_take) := goodIn_app (goodIn_of _ (by decide +kernel)) ggX2_read_X2_take
set_option maxRecDepth 20000 in
theorem ggX2_read_X2_token : GoodIn wsX2_read wsX2_token := goodIn_r _ [106, 5, 15, 87, 187, 188, 189, 190, 191, 192, 193, 194] (by decide +kernel) (by decide +kernel)
set_option maxRecDepth 20000 in
theorem gX2_read_X2_token : GoodIn wsX2_read (wsV RX2 58 RX2 yX2_token wsX2_token) := goodIn_app (goodIn_of _ (by decide +kernel)) ggX2_read_X2_token
set_option maxRecDepth 20000 in
theorem ggX2_stopOf_X2_isDigit : GoodIn wsX2_stopOf wsX2_isDigit := goodIn_r _ [7] (by decide +kernel) (by decide +kernel)
set_option maxRecDepth 20000 in
theorem gX2_stopOf_X2_isDigit : GoodIn wsX2_stopOf (va_wsS RX2 82 yX2_isDigit wsX2_isDigit) := goodIn_app (goodIn_of _ (by decide +kernel)) ggX2_stopOf_X2_isDigit
set_option maxRecDepth 20000 in
theorem ggX2_stopOf_X2_isLetter : GoodIn wsX2_stopOf wsX2_isLetter := goodIn_r _ [4] (by decide +kernel) (by decide +kernel)
set_option maxRecDepth 20000 in
theorem gX2_stopOf_X2_isLetter : GoodIn wsX2_stopOf (va_wsS RX2 79 yX2_isLetter wsX2_isLetter) := goodIn_app (goodIn_of _ (by decide +kernel)) ggX2_stopOf_X2_isLetter
set_option maxRecDepth 20000 in
theorem ggX2_take_X2_refuse : GoodIn wsX2_take wsX2_refuse := goodIn_r _ [12, 1, 13, 14, 15, 16, 17, 18, 19, 20, 21, 22] (by decide +kernel) (by decide +kernel)
set_option maxRecDepth 20000 in
theorem gX2_take_X2_refuse : GoodIn wsX2_take (wsV RX2 102 RX2 yX2_refuse wsX2_refuse) := goodIn_app (goodIn_of _ (by decide +kernel)) ggX2_take_X2_refuse
set_option maxRecDepth 20000 in
theorem ggX2_take_X2_token : GoodIn wsX2_take wsX2_token := goodIn_r _ [6, 1, 7, 8, 15, 16, 17, 18, 19, 20, 21, 22] (by decide +kernel) (by decide +kernel)
set_option maxRecDepth 20000 in
theorem gX2_take_X2_token : GoodIn wsX2_take (wsV RX2 58 RX2 yX2_token wsX2_token) := goodIn_app (goodIn_of _ (by decide +kernel)) ggX2_take_X2_token
set_option maxRecDepth 20000 in
theorem ggX2_tokenOf_X2_isDigit : GoodIn wsX2_tokenOf wsX2_isDigit := goodIn_r _ [59] (by decide +kernel) (by decide +kernel)
set_option maxRecDepth 20000 in
theorem gX2_tokenOf_X2_isDigit : GoodIn wsX2_tokenOf (va_wsS RX2 82 yX2_isDigit wsX2_isDigit) := goodIn_app (goodIn_of _ (by decide +kernel)) ggX2_tokenOf_X2_isDigit
set_option maxRecDepth 20000 in
theorem ggX2_tokenOf_X2_isLetter : GoodIn wsX2_tokenOf wsX2_isLetter := goodIn_r _ [4] (by decide +kernel) (by decide +kernel)
set_option maxRecDepth 20000 in
theorem gX2_tokenOf_X2_isLetter : GoodIn wsX2_tokenOf (va_wsS RX2 79 yX2_isLetter wsX2_isLetter) := goodIn_app (goodIn_of _ (by decide +kernel)) ggX2_tokenOf_X2_isLetter
set_option maxRecDepth 20000 in
theorem ggX2_tokenOf_X2_numberToken : GoodIn wsX2_tokenOf wsX2_numberToken := goodIn_r _ [62] (by decide +kernel) (by decide +kernel)
set_option maxRecDepth 20000 in
theorem gX2_tokenOf_X2_numberToken : GoodIn wsX2_tokenOf (va_wsS RX2 88 yX2_numberToken wsX2_numberToken) := goodIn_app (goodIn_of _ (by decide +kernel)) ggX2_tokenOf_X2_numberToken
set_option maxRecDepth 20000 in
theorem ggX2_tokenOf_X2_wordToken : GoodIn wsX2_tokenOf wsX2_wordToken := goodIn_r _ [7, 8, 9, 10, 11, 12, 13, 14, 15, 16, 17, 18, 19, 20, 21, 22, 23, 24, 25, 26, 27, 28, 29, 30, 31, 32, 33, 34, 35, 36, 37, 38, 39, 40, 41, 42, 43, 44, 45, 46, 47, 48, 49, 50, 51, 52, 53, 54, 55, 56] (by decide +kernel) (by decide +kernel)
set_option maxRecDepth 20000 in
theorem gX2_tokenOf_X2_wordToken : GoodIn wsX2_tokenOf (va_wsS RX2 85 yX2_wordToken wsX2_wordToken) := goodIn_app (goodIn_of _ (by decide +kernel)) ggX2_tokenOf_X2_wordToken
set_option maxRecDepth 20000 in
theorem ggX2_wordToken_J0_charAt_5068e : GoodIn wsX2_wordToken wsJ0_charAt_5068e := goodIn_r _ [16, 6, 17, 18, 19, 4, 20, 11, 12, 21, 22, 23, 24, 25, 26, 27, 28, 29, 30, 31, 32, 33, 34, 35, 36, 37, 38, 39, 40, 41, 42, 43, 44, 45, 46, 47, 48, 49] (by decide +kernel) (by decide +kernel)
set_option maxRecDepth 20000 in
theorem gX2_wordToken_J0_charAt_5068e : GoodIn wsX2_wordToken (wsV RX2 98 RJ0 yJ0_charAt_5068e wsJ0_charAt_5068e) := goodIn_app (goodIn_of _ (by decide +kernel)) ggX2_wordToken_J0_charAt_5068e
set_option maxRecDepth 20000 in
theorem ggX2_wordToken_J0_length_8abf5 : GoodIn wsX2_wordToken wsJ0_length_8abf5 := goodIn_r _ [5, 6, 7, 8, 9, 4, 10, 11, 12] (by decide +kernel) (by decide +kernel)
set_option maxRecDepth 20000 in
theorem gX2_wordToken_J0_length_8abf5 : GoodIn wsX2_wordToken (wsV RX2 93 RJ0 yJ0_length_8abf5 wsJ0_length_8abf5) := goodIn_app (goodIn_of _ (by decide +kernel)) ggX2_wordToken_J0_length_8abf5

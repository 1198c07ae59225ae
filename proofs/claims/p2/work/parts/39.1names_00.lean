set_option maxRecDepth 20000 in
theorem ggJ0_charAt_5068e_J0_isLatin1_aae02 : GoodIn wsJ0_charAt_5068e wsJ0_isLatin1_aae02 := goodIn_r _ [6, 7, 8] (by decide +kernel) (by decide +kernel)
set_option maxRecDepth 20000 in
theorem gJ0_charAt_5068e_J0_isLatin1_aae02 : GoodIn wsJ0_charAt_5068e (wsV RJ0 492 RJ0 yJ0_isLatin1_aae02 wsJ0_isLatin1_aae02) := goodIn_app (goodIn_of _ (by decide +kernel)) ggJ0_charAt_5068e_J0_isLatin1_aae02
set_option maxRecDepth 20000 in
theorem ggJ0_charAt_5068e_J1_charAt_3b067 : GoodIn wsJ0_charAt_5068e wsJ1_charAt_3b067 := goodIn_r _ [12, 13, 14, 5, 15, 16, 17, 18, 19, 20] (by decide +kernel) (by decide +kernel)
set_option maxRecDepth 20000 in
theorem gJ0_charAt_5068e_J1_charAt_3b067 : GoodIn wsJ0_charAt_5068e (va_wsS RJ0 495 yJ1_charAt_3b067 wsJ1_charAt_3b067) := goodIn_app (goodIn_of _ (by decide +kernel)) ggJ0_charAt_5068e_J1_charAt_3b067
set_option maxRecDepth 20000 in
theorem ggJ0_checkIndex_df160_J3_checkIndex_8e157 : GoodIn wsJ0_checkIndex_df160 wsJ3_checkIndex_8e157 := goodIn_r _ [5] (by decide +kernel) (by decide +kernel)
set_option maxRecDepth 20000 in
theorem gJ0_checkIndex_df160_J3_checkIndex_8e157 : GoodIn wsJ0_checkIndex_df160 (va_wsS RJ0 1059 yJ3_checkIndex_8e157 wsJ3_checkIndex_8e157) := goodIn_app (goodIn_of _ (by decide +kernel)) ggJ0_checkIndex_df160_J3_checkIndex_8e157
set_option maxRecDepth 20000 in
theorem ggJ0_length_8abf5_J0_coder_7d493 : GoodIn wsJ0_length_8abf5 wsJ0_coder_7d493 := goodIn_r _ [6, 7, 8] (by decide +kernel) (by decide +kernel)
set_option maxRecDepth 20000 in
theorem gJ0_length_8abf5_J0_coder_7d493 : GoodIn wsJ0_length_8abf5 (wsV RJ0 335 RJ0 yJ0_coder_7d493 wsJ0_coder_7d493) := goodIn_app (goodIn_of _ (by decide +kernel)) ggJ0_length_8abf5_J0_coder_7d493
set_option maxRecDepth 20000 in
theorem ggJ1_charAt_3b067_J0_checkIndex_df160 : GoodIn wsJ1_charAt_3b067 wsJ0_checkIndex_df160 := goodIn_r _ [4, 5, 6, 7, 8, 9] (by decide +kernel) (by decide +kernel)
set_option maxRecDepth 20000 in
theorem gJ1_charAt_3b067_J0_checkIndex_df160 : GoodIn wsJ1_charAt_3b067 (va_wsS RJ1 9 yJ0_checkIndex_df160 wsJ0_checkIndex_df160) := goodIn_app (goodIn_of _ (by decide +kernel)) ggJ1_charAt_3b067_J0_checkIndex_df160
set_option maxRecDepth 20000 in
theorem ggX2_cut_X2_addToken : GoodIn wsX2_cut wsX2_addToken := goodIn_r _ [73, 1, 74, 75, 76, 77, 78, 79, 80, 81, 82, 83] (by decide +kernel) (by decide +kernel)
set_option maxRecDepth 20000 in
theorem gX2_cut_X2_addToken : GoodIn wsX2_cut (wsV RX2 75 RX2 yX2_addToken wsX2_addToken) := goodIn_app (goodIn_of _ (by decide +kernel)) ggX2_cut_X2_addToken
set_option maxRecDepth 20000 in
theorem ggX2_cut_X2_stopOf : GoodIn wsX2_cut wsX2_stopOf := goodIn_r _ [5, 6, 7, 4, 8, 9, 10, 11] (by decide +kernel) (by decide +kernel)
set_option maxRecDepth 20000 in
theorem gX2_cut_X2_stopOf : GoodIn wsX2_cut (va_wsS RX2 68 yX2_stopOf wsX2_stopOf) := goodIn_app (goodIn_of _ (by decide +kernel)) ggX2_cut_X2_stopOf
set_option maxRecDepth 20000 in
theorem ggX2_cut_X2_tokenOf : GoodIn wsX2_cut wsX2_tokenOf := goodIn_r _ [14, 6, 7, 4, 8, 15, 16, 17, 18, 19, 20, 21, 22, 23, 24, 25, 26, 27, 28, 29, 30, 31, 32, 33, 34, 35, 36, 37, 38, 39, 40, 41, 42, 43, 44, 45, 46, 47, 48, 49, 50, 51, 52, 53, 54, 55, 56, 57, 58, 59, 60, 61, 62, 63, 64, 65, 66, 9, 10, 11, 67, 68, 69] (by decide +kernel) (by decide +kernel)
set_option maxRecDepth 20000 in
theorem gX2_cut_X2_tokenOf : GoodIn wsX2_cut (va_wsS RX2 72 yX2_tokenOf wsX2_tokenOf) := goodIn_app (goodIn_of _ (by decide +kernel)) ggX2_cut_X2_tokenOf
set_option maxRecDepth 20000 in
theorem ggX2_readChain_X2_refuse : GoodIn wsX2_readChain wsX2_refuse := goodIn_r _ [15, 4, 16, 17, 18, 19, 20, 21, 22, 23, 24, 25] (by decide +kernel) (by decide +kernel)
set_option maxRecDepth 20000 in
theorem gX2_readChain_X2_refuse : GoodIn wsX2_readChain (wsV RX2 102 RX2 yX2_refuse wsX2_refuse) := goodIn_app (goodIn_of _ (by decide +kernel)) ggX2_readChain_X2_refuse
set_option maxRecDepth 20000 in
theorem ggX2_readChain_X2_token : GoodIn wsX2_readChain wsX2_token := goodIn_r _ [9, 4, 10, 11, 18, 19, 20, 21, 22, 23, 24, 25] (by decide +kernel) (by decide +kernel)
set_option maxRecDepth 20000 in
theorem gX2_readChain_X2_token : GoodIn wsX2_readChain (wsV RX2 58 RX2 yX2_token wsX2_token) := goodIn_app (goodIn_of _ (by decide +kernel)) ggX2_readChain_X2_token
set_option maxRecDepth 20000 in
theorem ggX2_readClause_X1_beginClause : GoodIn wsX2_readClause wsX1_beginClause := goodIn_r _ [26, 27, 28, 29, 30, 107, 108, 109, 110, 111, 112, 113, 114, 115, 116, 117, 118, 119, 120, 121, 122, 123] (by decide +kernel) (by decide +kernel)
set_option maxRecDepth 20000 in
theorem gX2_readClause_X1_beginClause : GoodIn wsX2_readClause (wsV RX2 109 RX1 yX1_beginClause wsX1_beginClause) := goodIn_app (goodIn_of _ (by decide +kernel)) ggX2_readClause_X1_beginClause
set_option maxRecDepth 20000 in
theorem ggX2_readClause_X1_endSum : GoodIn wsX2_readClause wsX1_endSum := goodIn_r _ [52, 27, 53, 30, 54, 55, 56, 107, 108, 109, 110, 111, 112, 113, 114, 115, 116, 117, 118, 119, 120, 121, 122, 123] (by decide +kernel) (by decide +kernel)
set_option maxRecDepth 20000 in
theorem gX2_readClause_X1_endSum : GoodIn wsX2_readClause (wsV RX2 116 RX1 yX1_endSum wsX1_endSum) := goodIn_app (goodIn_of _ (by decide +kernel)) ggX2_readClause_X1_endSum
set_option maxRecDepth 20000 in
theorem ggX2_readClause_X1_endTest : GoodIn wsX2_readClause wsX1_endTest := goodIn_r _ [98, 27, 56, 55, 107, 108, 109, 110, 111, 112, 113, 114, 115, 116, 117, 118, 119, 120, 121, 122, 123] (by decide +kernel) (by decide +kernel)
set_option maxRecDepth 20000 in
theorem gX2_readClause_X1_endTest : GoodIn wsX2_readClause (wsV RX2 122 RX1 yX1_endTest wsX1_endTest) := goodIn_app (goodIn_of _ (by decide +kernel)) ggX2_readClause_X1_endTest
set_option maxRecDepth 20000 in
theorem ggX2_readClause_X2_readChain : GoodIn wsX2_readClause wsX2_readChain := goodIn_r _ [20, 1, 3, 21, 2, 4, 5, 6, 7, 8, 9, 10, 11, 12, 13, 14, 15, 16, 99, 100, 101, 102, 103, 104, 105, 106, 107, 108, 109, 110, 111, 112, 113, 114, 115, 116, 117, 118, 119, 120, 121, 122, 123] (by decide +kernel) (by decide +kernel)
set_option maxRecDepth 20000 in
theorem gX2_readClause_X2_readChain : GoodIn wsX2_readClause (wsV RX2 105 RX2 yX2_readChain wsX2_readChain) := goodIn_app (goodIn_of _ (by decide +kernel)) ggX2_readClause_X2_readChain
set_option maxRecDepth 20000 in
theorem ggX2_readClause_X2_readSum : GoodIn wsX2_readClause wsX2_readSum := goodIn_r _ [34, 2, 35, 36, 37, 7, 38, 39, 3, 4, 5, 6, 8, 9, 10, 11, 12, 13, 14, 15, 16, 40, 41, 42, 25, 43, 30, 44, 45, 46, 47, 48, 99, 100, 101, 102, 103, 104, 105, 106, 107, 108, 109, 110, 111, 112, 113, 114, 115, 116, 117, 118, 119, 120, 121, 122, 123] (by decide +kernel) (by decide +kernel)
set_option maxRecDepth 20000 in
theorem gX2_readClause_X2_readSum : GoodIn wsX2_readClause (wsV RX2 113 RX2 yX2_readSum wsX2_readSum) := goodIn_app (goodIn_of _ (by decide +kernel)) ggX2_readClause_X2_readSum
set_option maxRecDepth 20000 in
theorem ggX2_readClause_X2_readTest : GoodIn wsX2_readClause wsX2_readTest := goodIn_r _ [60, 3, 2, 61, 62, 63, 7, 64, 65, 66, 25, 67, 55, 68, 4, 5, 6, 8, 9, 10, 11, 12, 13, 14, 15, 16, 69, 70, 71, 72, 73, 39, 31, 32, 33, 34, 35, 36, 37, 38, 40, 41, 42, 43, 30, 44, 45, 46, 47, 48, 74, 75, 76, 77, 78, 79, 80, 81, 82, 83, 84, 85, 86, 57, 58, 59, 87, 88, 89, 90, 91, 92, 93, 94, 99, 100, 101, 102, 103, 104, 105, 106, 107, 108, 109, 110, 111, 112, 113, 114, 115, 116, 117, 118, 119, 120, 121, 122, 123] (by decide +kernel) (by decide +kernel)
set_option maxRecDepth 20000 in
theorem gX2_readClause_X2_readTest : GoodIn wsX2_readClause (wsV RX2 119 RX2 yX2_readTest wsX2_readTest) := goodIn_app (goodIn_of _ (by decide +kernel)) ggX2_readClause_X2_readTest
set_option maxRecDepth 20000 in
theorem ggX2_readClause_X2_refuse : GoodIn wsX2_readClause wsX2_refuse := goodIn_r _ [14, 2, 15, 16, 99, 100, 101, 102, 103, 104, 105, 106] (by decide +kernel) (by decide +kernel)
set_option maxRecDepth 20000 in
theorem gX2_readClause_X2_refuse : GoodIn wsX2_readClause (wsV RX2 102 RX2 yX2_refuse wsX2_refuse) := goodIn_app (goodIn_of _ (by decide +kernel)) ggX2_readClause_X2_refuse
set_option maxRecDepth 20000 in
theorem ggX2_readClause_X2_token : GoodIn wsX2_readClause wsX2_token := goodIn_r _ [8, 2, 9, 10, 99, 100, 101, 102, 103, 104, 105, 106] (by decide +kernel) (by decide +kernel)
set_option maxRecDepth 20000 in
theorem gX2_readClause_X2_token : GoodIn wsX2_readClause (wsV RX2 58 RX2 yX2_token wsX2_token) := goodIn_app (goodIn_of _ (by decide +kernel)) ggX2_readClause_X2_token
set_option maxRecDepth 20000 in
theorem ggX2_readComparison_X1_addFact : GoodIn wsX2_readComparison wsX1_addFact := goodIn_r _ [42, 43, 44, 45, 46, 30, 47, 48, 49, 50, 28, 51, 52, 53, 62, 63, 64, 65, 66, 67, 68, 69, 70, 71, 72, 73, 74, 75, 76, 77, 78] (by decide +kernel) (by decide +kernel)
set_option maxRecDepth 20000 in
theorem gX2_readComparison_X1_addFact : GoodIn wsX2_readComparison (wsV RX2 156 RX1 yX1_addFact wsX1_addFact) := goodIn_app (goodIn_of _ (by decide +kernel)) ggX2_readComparison_X1_addFact
set_option maxRecDepth 20000 in
theorem ggX2_readComparison_X2_readSum : GoodIn wsX2_readComparison wsX2_readSum := goodIn_r _ [8, 3, 9, 10, 11, 7, 12, 2, 1, 13, 14, 15, 16, 17, 18, 19, 20, 21, 22, 23, 24, 25, 26, 27, 28, 29, 30, 31, 32, 33, 34, 35, 54, 55, 56, 57, 58, 59, 60, 61, 62, 63, 64, 65, 66, 67, 68, 69, 70, 71, 72, 73, 74, 75, 76, 77, 78] (by decide +kernel) (by decide +kernel)
set_option maxRecDepth 20000 in
theorem gX2_readComparison_X2_readSum : GoodIn wsX2_readComparison (wsV RX2 113 RX2 yX2_readSum wsX2_readSum) := goodIn_app (goodIn_of _ (by decide +kernel)) ggX2_readComparison_X2_readSum
set_option maxRecDepth 20000 in
theorem ggX2_readComparison_X2_refuse : GoodIn wsX2_readComparison wsX2_refuse := goodIn_r _ [22, 3, 23, 24, 54, 55, 56, 57, 58, 59, 60, 61] (by decide +kernel) (by decide +kernel)
set_option maxRecDepth 20000 in
theorem gX2_readComparison_X2_refuse : GoodIn wsX2_readComparison (wsV RX2 102 RX2 yX2_refuse wsX2_refuse) := goodIn_app (goodIn_of _ (by decide +kernel)) ggX2_readComparison_X2_refuse
set_option maxRecDepth 20000 in
theorem ggX2_readComparison_X2_signOf : GoodIn wsX2_readComparison wsX2_signOf := goodIn_r _ [38] (by decide +kernel) (by decide +kernel)
set_option maxRecDepth 20000 in
theorem gX2_readComparison_X2_signOf : GoodIn wsX2_readComparison (va_wsS RX2 153 yX2_signOf wsX2_signOf) := goodIn_app (goodIn_of _ (by decide +kernel)) ggX2_readComparison_X2_signOf

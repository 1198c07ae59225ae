set_option maxRecDepth 20000 in
theorem ggX2_readComparison_X2_token : GoodIn wsX2_readComparison wsX2_token := goodIn_r _ [16, 3, 17, 18, 54, 55, 56, 57, 58, 59, 60, 61] (by decide +kernel) (by decide +kernel)
set_option maxRecDepth 20000 in
theorem gX2_readComparison_X2_token : GoodIn wsX2_readComparison (wsV RX2 58 RX2 yX2_token wsX2_token) := goodIn_app (goodIn_of _ (by decide +kernel)) ggX2_readComparison_X2_token
set_option maxRecDepth 20000 in
theorem ggX2_readFact_X1_addStep : GoodIn wsX2_readFact wsX1_addStep := goodIn_r _ [55, 56, 57, 82, 83, 84, 85, 86, 87, 88, 89, 90, 91, 92, 93, 94, 95, 96, 97, 98] (by decide +kernel) (by decide +kernel)
set_option maxRecDepth 20000 in
theorem gX2_readFact_X1_addStep : GoodIn wsX2_readFact (wsV RX2 141 RX1 yX1_addStep wsX1_addStep) := goodIn_app (goodIn_of _ (by decide +kernel)) ggX2_readFact_X1_addStep
set_option maxRecDepth 20000 in
theorem ggX2_readFact_X2_readComparison : GoodIn wsX2_readFact wsX2_readComparison := goodIn_r _ [13, 2, 14, 1, 15, 16, 17, 6, 18, 19, 20, 21, 22, 3, 4, 5, 7, 8, 9, 23, 24, 25, 26, 27, 28, 29, 30, 31, 32, 33, 34, 35, 36, 37, 38, 39, 40, 41, 42, 43, 44, 45, 46, 47, 48, 49, 50, 51, 52, 53, 54, 55, 56, 57, 74, 75, 76, 77, 78, 79, 80, 81, 82, 83, 84, 85, 86, 87, 88, 89, 90, 91, 92, 93, 94, 95, 96, 97, 98] (by decide +kernel) (by decide +kernel)
set_option maxRecDepth 20000 in
theorem gX2_readFact_X2_readComparison : GoodIn wsX2_readFact (wsV RX2 147 RX2 yX2_readComparison wsX2_readComparison) := goodIn_app (goodIn_of _ (by decide +kernel)) ggX2_readFact_X2_readComparison
set_option maxRecDepth 20000 in
theorem ggX2_readFact_X2_readFact : GoodIn wsX2_readFact wsX2_readFact := goodIn_r _ [0, 1, 2, 3, 4, 5, 6, 7, 8, 9, 10, 11, 12, 13, 14, 15, 16, 17, 18, 19, 20, 21, 22, 23, 24, 25, 26, 27, 28, 29, 30, 31, 32, 33, 34, 35, 36, 37, 38, 39, 40, 41, 42, 43, 44, 45, 46, 47, 48, 49, 50, 51, 52, 53, 54, 55, 56, 57, 58, 59, 60, 61, 62, 63, 64, 65, 66, 67, 68, 69, 70, 71, 72, 73, 74, 75, 76, 77, 78, 79, 80, 81, 82, 83, 84, 85, 86, 87, 88, 89, 90, 91, 92, 93, 94, 95, 96, 97, 98] (by decide +kernel) (by decide +kernel)
set_option maxRecDepth 20000 in
theorem gX2_readFact_X2_readFact : GoodIn wsX2_readFact (wsV RX2 144 RX2 yX2_readFact wsX2_readFact) := goodIn_app (goodIn_of _ (by decide +kernel)) ggX2_readFact_X2_readFact
set_option maxRecDepth 20000 in
theorem ggX2_readFact_X2_readTest : GoodIn wsX2_readFact wsX2_readTest := goodIn_r _ [70, 2, 1, 71, 72, 73, 6, 68, 53, 54, 32, 55, 56, 57, 3, 4, 5, 7, 8, 9, 23, 24, 25, 26, 27, 28, 0, 10, 11, 12, 13, 14, 15, 16, 17, 18, 19, 20, 21, 22, 29, 30, 31, 33, 34, 35, 36, 37, 38, 39, 40, 41, 42, 43, 44, 45, 46, 47, 48, 49, 50, 51, 52, 58, 59, 60, 61, 62, 63, 64, 65, 66, 67, 69, 74, 75, 76, 77, 78, 79, 80, 81, 82, 83, 84, 85, 86, 87, 88, 89, 90, 91, 92, 93, 94, 95, 96, 97, 98] (by decide +kernel) (by decide +kernel)
set_option maxRecDepth 20000 in
theorem gX2_readFact_X2_readTest : GoodIn wsX2_readFact (wsV RX2 119 RX2 yX2_readTest wsX2_readTest) := goodIn_app (goodIn_of _ (by decide +kernel)) ggX2_readFact_X2_readTest
set_option maxRecDepth 20000 in
theorem ggX2_readFact_X2_refuse : GoodIn wsX2_readFact wsX2_refuse := goodIn_r _ [26, 1, 27, 28, 74, 75, 76, 77, 78, 79, 80, 81] (by decide +kernel) (by decide +kernel)
set_option maxRecDepth 20000 in
theorem gX2_readFact_X2_refuse : GoodIn wsX2_readFact (wsV RX2 102 RX2 yX2_refuse wsX2_refuse) := goodIn_app (goodIn_of _ (by decide +kernel)) ggX2_readFact_X2_refuse
set_option maxRecDepth 20000 in
theorem ggX2_readFact_X2_take : GoodIn wsX2_readFact wsX2_take := goodIn_r _ [64, 1, 3, 4, 5, 6, 7, 8, 9, 23, 24, 25, 26, 27, 28, 74, 75, 76, 77, 78, 79, 80, 81] (by decide +kernel) (by decide +kernel)
set_option maxRecDepth 20000 in
theorem gX2_readFact_X2_take : GoodIn wsX2_readFact (wsV RX2 62 RX2 yX2_take wsX2_take) := goodIn_app (goodIn_of _ (by decide +kernel)) ggX2_readFact_X2_take
set_option maxRecDepth 20000 in
theorem ggX2_readFact_X2_token : GoodIn wsX2_readFact wsX2_token := goodIn_r _ [7, 1, 8, 9, 74, 75, 76, 77, 78, 79, 80, 81] (by decide +kernel) (by decide +kernel)
set_option maxRecDepth 20000 in
theorem gX2_readFact_X2_token : GoodIn wsX2_readFact (wsV RX2 58 RX2 yX2_token wsX2_token) := goodIn_app (goodIn_of _ (by decide +kernel)) ggX2_readFact_X2_token
set_option maxRecDepth 20000 in
theorem ggX2_readPart_X1_addStep : GoodIn wsX2_readPart wsX1_addStep := goodIn_r _ [11, 12, 13, 82, 83, 84, 85, 86, 87, 88, 89, 90, 91, 92, 93, 94, 95, 96, 97, 98] (by decide +kernel) (by decide +kernel)
set_option maxRecDepth 20000 in
theorem gX2_readPart_X1_addStep : GoodIn wsX2_readPart (wsV RX2 141 RX1 yX1_addStep wsX1_addStep) := goodIn_app (goodIn_of _ (by decide +kernel)) ggX2_readPart_X1_addStep
set_option maxRecDepth 20000 in
theorem ggX2_readPart_X2_readFact : GoodIn wsX2_readPart wsX2_readFact := goodIn_r _ [26, 2, 1, 14, 15, 16, 6, 17, 18, 19, 27, 28, 29, 30, 31, 32, 33, 34, 35, 36, 37, 38, 39, 20, 21, 22, 23, 24, 25, 40, 41, 42, 10, 43, 44, 45, 46, 47, 48, 49, 50, 51, 52, 53, 54, 55, 56, 57, 58, 59, 60, 61, 62, 8, 9, 11, 12, 13, 63, 64, 65, 66, 67, 68, 69, 3, 4, 5, 7, 0, 70, 71, 72, 73, 74, 75, 76, 77, 78, 79, 80, 81, 82, 83, 84, 85, 86, 87, 88, 89, 90, 91, 92, 93, 94, 95, 96, 97, 98] (by decide +kernel) (by decide +kernel)
set_option maxRecDepth 20000 in
theorem gX2_readPart_X2_readFact : GoodIn wsX2_readPart (wsV RX2 144 RX2 yX2_readFact wsX2_readFact) := goodIn_app (goodIn_of _ (by decide +kernel)) ggX2_readPart_X2_readFact
set_option maxRecDepth 20000 in
theorem ggX2_readPart_X2_refuse : GoodIn wsX2_readPart wsX2_refuse := goodIn_r _ [23, 2, 24, 25, 74, 75, 76, 77, 78, 79, 80, 81] (by decide +kernel) (by decide +kernel)
set_option maxRecDepth 20000 in
theorem gX2_readPart_X2_refuse : GoodIn wsX2_readPart (wsV RX2 102 RX2 yX2_refuse wsX2_refuse) := goodIn_app (goodIn_of _ (by decide +kernel)) ggX2_readPart_X2_refuse
set_option maxRecDepth 20000 in
theorem ggX2_readPart_X2_token : GoodIn wsX2_readPart wsX2_token := goodIn_r _ [17, 2, 18, 19, 74, 75, 76, 77, 78, 79, 80, 81] (by decide +kernel) (by decide +kernel)
set_option maxRecDepth 20000 in
theorem gX2_readPart_X2_token : GoodIn wsX2_readPart (wsV RX2 58 RX2 yX2_token wsX2_token) := goodIn_app (goodIn_of _ (by decide +kernel)) ggX2_readPart_X2_token
set_option maxRecDepth 20000 in
theorem ggX2_readSum_X2_joinOf : GoodIn wsX2_readSum wsX2_joinOf := goodIn_r _ [31] (by decide +kernel) (by decide +kernel)
set_option maxRecDepth 20000 in
theorem gX2_readSum_X2_joinOf : GoodIn wsX2_readSum (va_wsS RX2 131 yX2_joinOf wsX2_joinOf) := goodIn_app (goodIn_of _ (by decide +kernel)) ggX2_readSum_X2_joinOf
set_option maxRecDepth 20000 in
theorem ggX2_readSum_X2_readValue : GoodIn wsX2_readSum wsX2_readValue := goodIn_r _ [6, 7, 8, 1, 9, 10, 11, 5, 12, 13, 14, 15, 16, 17, 18, 19, 20, 21, 22, 23, 24, 25, 26, 27, 28, 32, 33, 34, 35, 36, 37, 38, 39, 40, 41, 42, 43, 44, 45, 46, 47, 48, 49, 50, 51, 52, 53, 54, 55, 56] (by decide +kernel) (by decide +kernel)
set_option maxRecDepth 20000 in
theorem gX2_readSum_X2_readValue : GoodIn wsX2_readSum (wsV RX2 128 RX2 yX2_readValue wsX2_readValue) := goodIn_app (goodIn_of _ (by decide +kernel)) ggX2_readSum_X2_readValue
set_option maxRecDepth 20000 in
theorem ggX2_readSum_X2_refuse : GoodIn wsX2_readSum wsX2_refuse := goodIn_r _ [18, 1, 19, 20, 32, 33, 34, 35, 36, 37, 38, 39] (by decide +kernel) (by decide +kernel)
set_option maxRecDepth 20000 in
theorem gX2_readSum_X2_refuse : GoodIn wsX2_readSum (wsV RX2 102 RX2 yX2_refuse wsX2_refuse) := goodIn_app (goodIn_of _ (by decide +kernel)) ggX2_readSum_X2_refuse
set_option maxRecDepth 20000 in
theorem ggX2_readSum_X2_token : GoodIn wsX2_readSum wsX2_token := goodIn_r _ [12, 1, 13, 14, 32, 33, 34, 35, 36, 37, 38, 39] (by decide +kernel) (by decide +kernel)
set_option maxRecDepth 20000 in
theorem gX2_readSum_X2_token : GoodIn wsX2_readSum (wsV RX2 58 RX2 yX2_token wsX2_token) := goodIn_app (goodIn_of _ (by decide +kernel)) ggX2_readSum_X2_token
set_option maxRecDepth 20000 in
theorem ggX2_readTest_X1_addStep : GoodIn wsX2_readTest wsX1_addStep := goodIn_r _ [11, 12, 13, 82, 83, 84, 85, 86, 87, 88, 89, 90, 91, 92, 93, 94, 95, 96, 97, 98] (by decide +kernel) (by decide +kernel)
set_option maxRecDepth 20000 in
theorem gX2_readTest_X1_addStep : GoodIn wsX2_readTest (wsV RX2 141 RX1 yX1_addStep wsX1_addStep) := goodIn_app (goodIn_of _ (by decide +kernel)) ggX2_readTest_X1_addStep
set_option maxRecDepth 20000 in
theorem ggX2_readTest_X2_readPart : GoodIn wsX2_readTest wsX2_readPart := goodIn_r _ [73, 1, 2, 70, 71, 72, 6, 7, 8, 9, 10, 11, 12, 13, 14, 15, 16, 17, 18, 19, 20, 21, 22, 23, 24, 25, 26, 27, 28, 29, 30, 31, 32, 33, 34, 35, 36, 37, 38, 39, 40, 41, 42, 43, 44, 45, 46, 47, 48, 49, 50, 51, 52, 53, 54, 55, 56, 57, 58, 59, 60, 61, 62, 63, 64, 65, 66, 67, 68, 69, 0, 3, 4, 5, 74, 75, 76, 77, 78, 79, 80, 81, 82, 83, 84, 85, 86, 87, 88, 89, 90, 91, 92, 93, 94, 95, 96, 97, 98] (by decide +kernel) (by decide +kernel)
set_option maxRecDepth 20000 in
theorem gX2_readTest_X2_readPart : GoodIn wsX2_readTest (wsV RX2 138 RX2 yX2_readPart wsX2_readPart) := goodIn_app (goodIn_of _ (by decide +kernel)) ggX2_readTest_X2_readPart
set_option maxRecDepth 20000 in
theorem ggX2_readTest_X2_refuse : GoodIn wsX2_readTest wsX2_refuse := goodIn_r _ [23, 2, 24, 25, 74, 75, 76, 77, 78, 79, 80, 81] (by decide +kernel) (by decide +kernel)
set_option maxRecDepth 20000 in
theorem gX2_readTest_X2_refuse : GoodIn wsX2_readTest (wsV RX2 102 RX2 yX2_refuse wsX2_refuse) := goodIn_app (goodIn_of _ (by decide +kernel)) ggX2_readTest_X2_refuse
set_option maxRecDepth 20000 in
theorem ggX2_readTest_X2_token : GoodIn wsX2_readTest wsX2_token := goodIn_r _ [17, 2, 18, 19, 74, 75, 76, 77, 78, 79, 80, 81] (by decide +kernel) (by decide +kernel)
set_option maxRecDepth 20000 in
theorem gX2_readTest_X2_token : GoodIn wsX2_readTest (wsV RX2 58 RX2 yX2_token wsX2_token) := goodIn_app (goodIn_of _ (by decide +kernel)) ggX2_readTest_X2_token
set_option maxRecDepth 20000 in
theorem ggX2_readValue_X1_addValue : GoodIn wsX2_readValue wsX1_addValue := goodIn_r _ [21, 22, 23, 24, 33, 34, 35, 36, 37, 38, 39, 40, 41, 42, 43, 44, 45, 46, 47, 48, 49] (by decide +kernel) (by decide +kernel)
set_option maxRecDepth 20000 in
theorem gX2_readValue_X1_addValue : GoodIn wsX2_readValue (wsV RX2 135 RX1 yX1_addValue wsX1_addValue) := goodIn_app (goodIn_of _ (by decide +kernel)) ggX2_readValue_X1_addValue

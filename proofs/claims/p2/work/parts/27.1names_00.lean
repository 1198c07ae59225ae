set_option maxRecDepth 20000 in
theorem ggX11_clauseOf_X11_passWord : GoodIn wsX11_clauseOf wsX11_passWord := goodIn_r _ [10, 11, 12, 13, 14, 9, 15, 16, 17, 122, 123, 124, 125, 126, 127, 128, 129, 130, 131, 132, 133, 134, 135, 136, 137, 138, 139, 140, 141, 142, 143, 144, 145, 146, 147, 148, 149, 150, 151, 152, 153, 154, 155, 156, 157, 158, 159, 160, 161, 162, 163] (by decide +kernel) (by decide +kernel)
set_option maxRecDepth 20000 in
theorem gX11_clauseOf_X11_passWord : GoodIn wsX11_clauseOf (wsV RX11 105 RX11 yX11_passWord wsX11_passWord) := goodIn_app (goodIn_of _ (by decide +kernel)) ggX11_clauseOf_X11_passWord
set_option maxRecDepth 20000 in
theorem ggX11_clauseOf_X11_sum : GoodIn wsX11_clauseOf wsX11_sum := goodIn_r _ [21, 17, 11, 22, 23, 24, 9, 25, 26, 27, 28, 29, 30, 31, 32, 33, 34, 35, 16, 36, 37, 38, 39, 40, 41, 42, 43, 44, 45, 46, 47, 48, 49, 50, 51, 52, 53, 54, 55, 56, 57, 58, 59, 60, 61, 1, 4, 62, 63, 64, 65, 66, 67, 68, 69, 70, 71, 72, 73, 74, 75, 76, 77, 78, 79, 80, 12, 13, 14, 15, 6, 7, 8, 10, 122, 123, 124, 125, 126, 127, 128, 129, 130, 131, 132, 133, 134, 135, 136, 137, 138, 139, 140, 141, 142, 143, 144, 145, 146, 147, 148, 149, 150, 151, 152, 153, 154, 155, 156, 157, 158, 159, 160, 161, 162, 163] (by decide +kernel) (by decide +kernel)
set_option maxRecDepth 20000 in
theorem gX11_clauseOf_X11_sum : GoodIn wsX11_clauseOf (wsV RX11 181 RX11 yX11_sum wsX11_sum) := goodIn_app (goodIn_of _ (by decide +kernel)) ggX11_clauseOf_X11_sum
set_option maxRecDepth 20000 in
theorem ggX11_clauseOf_X11_takesWord : GoodIn wsX11_clauseOf wsX11_takesWord := goodIn_r _ [84, 77, 78, 79, 9, 80, 11, 17, 32, 33, 34, 35, 16, 12, 13, 14, 15, 6, 7, 8, 10, 122, 123, 124, 125, 126, 127, 128, 129, 130, 131, 132, 133, 134, 135, 136, 137, 138, 139, 140, 141, 142, 143, 144, 145, 146, 147, 148, 149, 150, 151, 152, 153, 154, 155, 156, 157, 158, 159, 160, 161, 162, 163] (by decide +kernel) (by decide +kernel)
set_option maxRecDepth 20000 in
theorem gX11_clauseOf_X11_takesWord : GoodIn wsX11_clauseOf (wsV RX11 210 RX11 yX11_takesWord wsX11_takesWord) := goodIn_app (goodIn_of _ (by decide +kernel)) ggX11_clauseOf_X11_takesWord
set_option maxRecDepth 20000 in
theorem ggX11_clauseOf_X11_tested : GoodIn wsX11_clauseOf wsX11_tested := goodIn_r _ [88, 89, 90, 91, 92, 93, 11, 94, 95, 96, 9, 97, 98, 32, 33, 34, 35, 16, 17, 77, 78, 79, 80, 12, 13, 14, 15, 99, 100, 101, 102, 44, 45, 46, 47, 48, 6, 7, 8, 10, 103, 104, 105, 106, 18, 19, 20, 21, 22, 23, 24, 25, 26, 27, 28, 29, 30, 31, 36, 37, 38, 39, 40, 41, 42, 43, 49, 50, 51, 52, 53, 54, 55, 56, 57, 58, 59, 60, 61, 1, 4, 62, 63, 64, 65, 66, 67, 68, 69, 70, 71, 72, 73, 74, 75, 76, 107, 108, 109, 110, 111, 112, 113, 114, 115, 116, 117, 118, 119, 120, 121, 122, 123, 124, 125, 126, 127, 128, 129, 130, 131, 132, 133, 134, 135, 136, 137, 138, 139, 140, 141, 142, 143, 144, 145, 146, 147, 148, 149, 150, 151, 152, 153, 154, 155, 156, 157, 158, 159, 160, 161, 162, 163] (by decide +kernel) (by decide +kernel)
set_option maxRecDepth 20000 in
theorem gX11_clauseOf_X11_tested : GoodIn wsX11_clauseOf (wsV RX11 213 RX11 yX11_tested wsX11_tested) := goodIn_app (goodIn_of _ (by decide +kernel)) ggX11_clauseOf_X11_tested

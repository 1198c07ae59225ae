set_option maxRecDepth 20000 in
theorem ggX11_clauseHere_X11_clauseOf : GoodIn wsX11_clauseHere wsX11_clauseOf := goodIn_r _ [34, 9, 35, 36, 37, 38, 39, 40, 41, 14, 42, 1, 22, 23, 24, 25, 16, 17, 43, 44, 45, 46, 47, 48, 49, 50, 51, 52, 53, 54, 55, 10, 11, 12, 13, 15, 56, 57, 58, 59, 60, 61, 62, 63, 26, 27, 28, 29, 30, 64, 65, 66, 67, 68, 69, 70, 71, 72, 73, 74, 75, 76, 77, 78, 79, 80, 81, 82, 83, 84, 85, 86, 87, 88, 89, 90, 91, 18, 19, 20, 21, 92, 93, 94, 95, 96, 97, 98, 99, 100, 101, 102, 103, 104, 105, 106, 107, 108, 109, 110, 111, 112, 113, 114, 115, 116, 117, 118, 119, 120, 121, 122, 123, 124, 125, 126, 127, 128, 129, 130, 131, 132, 133, 134, 135, 136, 137, 138, 139, 140, 141, 142, 143, 144, 145, 146, 147, 148, 149, 150, 151, 152, 153, 154, 155, 156, 157, 158, 159, 160, 161, 162, 163, 164, 165, 166, 167, 168, 169, 170, 171, 172, 173, 174] (by decide +kernel) (by decide +kernel)
set_option maxRecDepth 20000 in
theorem gX11_clauseHere_X11_clauseOf : GoodIn wsX11_clauseHere (wsV RX11 229 RX11 yX11_clauseOf wsX11_clauseOf) := goodIn_app (goodIn_of _ (by decide +kernel)) ggX11_clauseHere_X11_clauseOf
set_option maxRecDepth 20000 in
theorem ggX11_clauseHere_X11_fails : GoodIn wsX11_clauseHere wsX11_fails := goodIn_r _ [29, 30, 133, 134, 135, 136, 137, 138, 139, 140, 141, 142, 143, 144, 145, 146, 147, 148, 149, 150, 151, 152, 153, 154, 155, 156, 157, 158, 159, 160, 161, 162, 163, 164, 165, 166, 167, 168, 169, 170, 171, 172, 173, 174] (by decide +kernel) (by decide +kernel)
set_option maxRecDepth 20000 in
theorem gX11_clauseHere_X11_fails : GoodIn wsX11_clauseHere (wsV RX11 111 RX11 yX11_fails wsX11_fails) := goodIn_app (goodIn_of _ (by decide +kernel)) ggX11_clauseHere_X11_fails
set_option maxRecDepth 20000 in
theorem ggX11_clauseHere_X11_isWord : GoodIn wsX11_clauseHere wsX11_isWord := goodIn_r _ [21, 1, 17, 11, 12, 13, 14, 15, 16, 22, 23, 24, 25, 133, 134, 135, 136, 137, 138, 139, 140, 141, 142, 143, 144, 145, 146, 147, 148, 149, 150, 151, 152, 153, 154, 155, 156, 157, 158, 159, 160, 161, 162, 163, 164, 165, 166, 167, 168, 169, 170, 171, 172, 173, 174] (by decide +kernel) (by decide +kernel)
set_option maxRecDepth 20000 in
theorem gX11_clauseHere_X11_isWord : GoodIn wsX11_clauseHere (wsV RX11 101 RX11 yX11_isWord wsX11_isWord) := goodIn_app (goodIn_of _ (by decide +kernel)) ggX11_clauseHere_X11_isWord
set_option maxRecDepth 20000 in
theorem ggX11_clauseHere_X11_numberHere : GoodIn wsX11_clauseHere wsX11_numberHere := goodIn_r _ [63, 1, 17, 10, 11, 12, 13, 14, 15, 16, 56, 57, 58, 59, 26, 27, 28, 29, 30, 64, 65, 66, 133, 134, 135, 136, 137, 138, 139, 140, 141, 142, 143, 144, 145, 146, 147, 148, 149, 150, 151, 152, 153, 154, 155, 156, 157, 158, 159, 160, 161, 162, 163, 164, 165, 166, 167, 168, 169, 170, 171, 172, 173, 174] (by decide +kernel) (by decide +kernel)
set_option maxRecDepth 20000 in
theorem gX11_clauseHere_X11_numberHere : GoodIn wsX11_clauseHere (wsV RX11 165 RX11 yX11_numberHere wsX11_numberHere) := goodIn_app (goodIn_of _ (by decide +kernel)) ggX11_clauseHere_X11_numberHere
set_option maxRecDepth 20000 in
theorem ggX11_clauseHere_X11_passWord : GoodIn wsX11_clauseHere wsX11_passWord := goodIn_r _ [42, 1, 22, 23, 24, 14, 25, 16, 17, 133, 134, 135, 136, 137, 138, 139, 140, 141, 142, 143, 144, 145, 146, 147, 148, 149, 150, 151, 152, 153, 154, 155, 156, 157, 158, 159, 160, 161, 162, 163, 164, 165, 166, 167, 168, 169, 170, 171, 172, 173, 174] (by decide +kernel) (by decide +kernel)
set_option maxRecDepth 20000 in
theorem gX11_clauseHere_X11_passWord : GoodIn wsX11_clauseHere (wsV RX11 105 RX11 yX11_passWord wsX11_passWord) := goodIn_app (goodIn_of _ (by decide +kernel)) ggX11_clauseHere_X11_passWord
set_option maxRecDepth 20000 in
theorem ggX11_clauseHere_X11_see : GoodIn wsX11_clauseHere wsX11_see := goodIn_r _ [15, 1, 16, 17, 133, 134, 135, 136, 137, 138, 139, 140, 141, 142, 143, 144, 145, 146, 147, 148, 149, 150, 151, 152, 153, 154, 155, 156, 157, 158, 159, 160, 161, 162, 163, 164, 165, 166, 167, 168, 169, 170, 171, 172, 173, 174] (by decide +kernel) (by decide +kernel)
set_option maxRecDepth 20000 in
theorem gX11_clauseHere_X11_see : GoodIn wsX11_clauseHere (wsV RX11 93 RX11 yX11_see wsX11_see) := goodIn_app (goodIn_of _ (by decide +kernel)) ggX11_clauseHere_X11_see

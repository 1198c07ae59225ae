set_option maxRecDepth 20000 in
theorem ggX11_tested_X11_closes : GoodIn wsX11_tested wsX11_closes := goodIn_r _ [99, 1, 2, 6, 100, 101, 102, 10, 103, 5, 104, 105, 106, 74, 75, 76, 77, 78, 79, 80, 13, 14, 15, 16, 17, 18, 107, 108, 109, 110, 111, 112, 113, 114, 115, 116, 117, 118, 119, 120, 121, 122, 123, 124, 125, 126, 127, 128, 129, 130, 131, 132, 133, 134, 135, 136, 137, 138, 139, 140, 141, 142, 143, 144, 145, 146, 147, 148, 149, 150, 151, 152] (by decide +kernel) (by decide +kernel)
set_option maxRecDepth 20000 in
theorem gX11_tested_X11_closes : GoodIn wsX11_tested (wsV RX11 201 RX11 yX11_closes wsX11_closes) := goodIn_app (goodIn_of _ (by decide +kernel)) ggX11_tested_X11_closes
set_option maxRecDepth 20000 in
theorem ggX11_tested_X11_fact : GoodIn wsX11_tested wsX11_fact := goodIn_r _ [11, 12, 6, 13, 14, 15, 10, 16, 17, 18, 19, 20, 21, 22, 23, 24, 25, 26, 27, 28, 29, 30, 2, 5, 1, 31, 32, 33, 34, 35, 36, 37, 38, 39, 40, 41, 42, 43, 44, 45, 46, 47, 48, 49, 50, 51, 52, 53, 54, 55, 56, 57, 58, 59, 60, 61, 62, 63, 64, 65, 66, 67, 68, 69, 70, 71, 72, 73, 74, 75, 76, 77, 78, 79, 80, 81, 82, 83, 84, 85, 86, 87, 88, 89, 90, 91, 92, 93, 94, 95, 111, 112, 113, 114, 115, 116, 117, 118, 119, 120, 121, 122, 123, 124, 125, 126, 127, 128, 129, 130, 131, 132, 133, 134, 135, 136, 137, 138, 139, 140, 141, 142, 143, 144, 145, 146, 147, 148, 149, 150, 151, 152] (by decide +kernel) (by decide +kernel)
set_option maxRecDepth 20000 in
theorem gX11_tested_X11_fact : GoodIn wsX11_tested (wsV RX11 198 RX11 yX11_fact wsX11_fact) := goodIn_app (goodIn_of _ (by decide +kernel)) ggX11_tested_X11_fact
set_option maxRecDepth 20000 in
theorem ggX11_tested_X11_fails : GoodIn wsX11_tested wsX11_fails := goodIn_r _ [34, 35, 111, 112, 113, 114, 115, 116, 117, 118, 119, 120, 121, 122, 123, 124, 125, 126, 127, 128, 129, 130, 131, 132, 133, 134, 135, 136, 137, 138, 139, 140, 141, 142, 143, 144, 145, 146, 147, 148, 149, 150, 151, 152] (by decide +kernel) (by decide +kernel)
set_option maxRecDepth 20000 in
theorem gX11_tested_X11_fails : GoodIn wsX11_tested (wsV RX11 111 RX11 yX11_fails wsX11_fails) := goodIn_app (goodIn_of _ (by decide +kernel)) ggX11_tested_X11_fails
set_option maxRecDepth 20000 in
theorem ggX11_tested_X11_isInside : GoodIn wsX11_tested wsX11_isInside := goodIn_r _ [110, 1, 5, 111, 112, 113, 114, 115, 116, 117, 118, 119, 120, 121, 122, 123, 124, 125, 126, 127, 128, 129, 130, 131, 132, 133, 134, 135, 136, 137, 138, 139, 140, 141, 142, 143, 144, 145, 146, 147, 148, 149, 150, 151, 152] (by decide +kernel) (by decide +kernel)
set_option maxRecDepth 20000 in
theorem gX11_tested_X11_isInside : GoodIn wsX11_tested (wsV RX11 195 RX11 yX11_isInside wsX11_isInside) := goodIn_app (goodIn_of _ (by decide +kernel)) ggX11_tested_X11_isInside
set_option maxRecDepth 20000 in
theorem ggX11_tested_X11_isWord : GoodIn wsX11_tested wsX11_isWord := goodIn_r _ [22, 6, 18, 13, 14, 15, 10, 16, 17, 23, 24, 25, 26, 111, 112, 113, 114, 115, 116, 117, 118, 119, 120, 121, 122, 123, 124, 125, 126, 127, 128, 129, 130, 131, 132, 133, 134, 135, 136, 137, 138, 139, 140, 141, 142, 143, 144, 145, 146, 147, 148, 149, 150, 151, 152] (by decide +kernel) (by decide +kernel)
set_option maxRecDepth 20000 in
theorem gX11_tested_X11_isWord : GoodIn wsX11_tested (wsV RX11 101 RX11 yX11_isWord wsX11_isWord) := goodIn_app (goodIn_of _ (by decide +kernel)) ggX11_tested_X11_isWord
set_option maxRecDepth 20000 in
theorem ggX11_tested_X11_passWord : GoodIn wsX11_tested wsX11_passWord := goodIn_r _ [39, 6, 23, 24, 25, 10, 26, 17, 18, 111, 112, 113, 114, 115, 116, 117, 118, 119, 120, 121, 122, 123, 124, 125, 126, 127, 128, 129, 130, 131, 132, 133, 134, 135, 136, 137, 138, 139, 140, 141, 142, 143, 144, 145, 146, 147, 148, 149, 150, 151, 152] (by decide +kernel) (by decide +kernel)
set_option maxRecDepth 20000 in
theorem gX11_tested_X11_passWord : GoodIn wsX11_tested (wsV RX11 105 RX11 yX11_passWord wsX11_passWord) := goodIn_app (goodIn_of _ (by decide +kernel)) ggX11_tested_X11_passWord
set_option maxRecDepth 20000 in
theorem ggX11_tested_X11_see : GoodIn wsX11_tested wsX11_see := goodIn_r _ [16, 6, 17, 18, 111, 112, 113, 114, 115, 116, 117, 118, 119, 120, 121, 122, 123, 124, 125, 126, 127, 128, 129, 130, 131, 132, 133, 134, 135, 136, 137, 138, 139, 140, 141, 142, 143, 144, 145, 146, 147, 148, 149, 150, 151, 152] (by decide +kernel) (by decide +kernel)
set_option maxRecDepth 20000 in
theorem gX11_tested_X11_see : GoodIn wsX11_tested (wsV RX11 93 RX11 yX11_see wsX11_see) := goodIn_app (goodIn_of _ (by decide +kernel)) ggX11_tested_X11_see
set_option maxRecDepth 20000 in
theorem ggX11_tested_X11_settles : GoodIn wsX11_tested wsX11_settles := goodIn_r _ [103, 1, 5, 2, 104, 105, 10, 106, 74, 75, 76, 77, 78, 79, 80, 111, 112, 113, 114, 115, 116, 117, 118, 119, 120, 121, 122, 123, 124, 125, 126, 127, 128, 129, 130, 131, 132, 133, 134, 135, 136, 137, 138, 139, 140, 141, 142, 143, 144, 145, 146, 147, 148, 149, 150, 151, 152] (by decide +kernel) (by decide +kernel)
set_option maxRecDepth 20000 in
theorem gX11_tested_X11_settles : GoodIn wsX11_tested (wsV RX11 192 RX11 yX11_settles wsX11_settles) := goodIn_app (goodIn_of _ (by decide +kernel)) ggX11_tested_X11_settles
set_option maxRecDepth 20000 in
theorem ggX11_tested_X11_strength : GoodIn wsX11_tested wsX11_strength := goodIn_r _ [106] (by decide +kernel) (by decide +kernel)
set_option maxRecDepth 20000 in
theorem gX11_tested_X11_strength : GoodIn wsX11_tested (va_wsS RX11 156 yX11_strength wsX11_strength) := goodIn_app (goodIn_of _ (by decide +kernel)) ggX11_tested_X11_strength

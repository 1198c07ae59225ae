set_option maxRecDepth 20000 in
theorem ggX11_fact_X11_compare : GoodIn wsX11_fact wsX11_compare := goodIn_r _ [37, 2, 8, 9, 38, 39, 40, 6, 41, 42, 43, 44, 45, 46, 47, 48, 49, 50, 51, 3, 4, 5, 7, 52, 53, 54, 55, 56, 57, 58, 59, 25, 26, 27, 28, 29, 60, 61, 62, 63, 64, 65, 66, 67, 68, 69, 70, 71, 72, 73, 74, 75, 76, 77, 78, 79, 80, 81, 82, 83, 84, 85, 86, 87, 88, 89, 10, 11, 12, 13, 14, 15, 16, 17, 30, 31, 32, 33, 90, 91, 92, 93, 94, 95, 96, 97, 98, 99, 100, 101, 102, 103, 104, 105, 106, 107, 108, 109, 110, 111, 112, 113, 114, 115, 116, 117, 118, 119, 120, 121, 122, 123, 124, 125, 126, 127, 128, 129, 130, 131] (by decide +kernel) (by decide +kernel)
set_option maxRecDepth 20000 in
theorem gX11_fact_X11_compare : GoodIn wsX11_fact (wsV RX11 189 RX11 yX11_compare wsX11_compare) := goodIn_app (goodIn_of _ (by decide +kernel)) ggX11_fact_X11_compare
set_option maxRecDepth 20000 in
theorem ggX11_fact_X11_isWord : GoodIn wsX11_fact wsX11_isWord := goodIn_r _ [13, 2, 9, 3, 4, 5, 6, 7, 8, 14, 15, 16, 17, 90, 91, 92, 93, 94, 95, 96, 97, 98, 99, 100, 101, 102, 103, 104, 105, 106, 107, 108, 109, 110, 111, 112, 113, 114, 115, 116, 117, 118, 119, 120, 121, 122, 123, 124, 125, 126, 127, 128, 129, 130, 131] (by decide +kernel) (by decide +kernel)
set_option maxRecDepth 20000 in
theorem gX11_fact_X11_isWord : GoodIn wsX11_fact (wsV RX11 101 RX11 yX11_isWord wsX11_isWord) := goodIn_app (goodIn_of _ (by decide +kernel)) ggX11_fact_X11_isWord
set_option maxRecDepth 20000 in
theorem ggX11_fact_X11_opens : GoodIn wsX11_fact wsX11_opens := goodIn_r _ [21, 22, 2, 23, 24, 25, 26, 27, 6, 28, 29, 90, 91, 92, 93, 94, 95, 96, 97, 98, 99, 100, 101, 102, 103, 104, 105, 106, 107, 108, 109, 110, 111, 112, 113, 114, 115, 116, 117, 118, 119, 120, 121, 122, 123, 124, 125, 126, 127, 128, 129, 130, 131] (by decide +kernel) (by decide +kernel)
set_option maxRecDepth 20000 in
theorem gX11_fact_X11_opens : GoodIn wsX11_fact (wsV RX11 186 RX11 yX11_opens wsX11_opens) := goodIn_app (goodIn_of _ (by decide +kernel)) ggX11_fact_X11_opens
set_option maxRecDepth 20000 in
theorem ggX11_fact_X11_passWord : GoodIn wsX11_fact wsX11_passWord := goodIn_r _ [33, 2, 14, 15, 16, 6, 17, 8, 9, 90, 91, 92, 93, 94, 95, 96, 97, 98, 99, 100, 101, 102, 103, 104, 105, 106, 107, 108, 109, 110, 111, 112, 113, 114, 115, 116, 117, 118, 119, 120, 121, 122, 123, 124, 125, 126, 127, 128, 129, 130, 131] (by decide +kernel) (by decide +kernel)
set_option maxRecDepth 20000 in
theorem gX11_fact_X11_passWord : GoodIn wsX11_fact (wsV RX11 105 RX11 yX11_passWord wsX11_passWord) := goodIn_app (goodIn_of _ (by decide +kernel)) ggX11_fact_X11_passWord
set_option maxRecDepth 20000 in
theorem ggX11_fact_X11_see : GoodIn wsX11_fact wsX11_see := goodIn_r _ [7, 2, 8, 9, 90, 91, 92, 93, 94, 95, 96, 97, 98, 99, 100, 101, 102, 103, 104, 105, 106, 107, 108, 109, 110, 111, 112, 113, 114, 115, 116, 117, 118, 119, 120, 121, 122, 123, 124, 125, 126, 127, 128, 129, 130, 131] (by decide +kernel) (by decide +kernel)
set_option maxRecDepth 20000 in
theorem gX11_fact_X11_see : GoodIn wsX11_fact (wsV RX11 93 RX11 yX11_see wsX11_see) := goodIn_app (goodIn_of _ (by decide +kernel)) ggX11_fact_X11_see

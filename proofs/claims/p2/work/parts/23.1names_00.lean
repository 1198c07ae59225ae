set_option maxRecDepth 20000 in
theorem ggX11_ahead_X11_hour : GoodIn wsX11_ahead wsX11_hour := goodIn_r _ [16, 3, 17, 18, 19, 7, 20, 21, 22, 23, 24, 25, 26, 27, 28, 29, 30, 31, 32, 33, 34, 35, 36, 37, 38, 39, 40, 41, 42, 43, 44, 45, 46, 47, 48, 49, 50, 51, 52, 53, 54, 55, 56, 57, 58, 59, 60, 61, 62, 63, 64, 65, 66, 67, 68, 69, 70, 71, 72, 73, 74, 75, 76, 77, 78, 79, 80, 81, 82, 83, 84, 85, 86, 87, 88, 89, 90, 91, 92, 93, 94, 95, 96, 97, 98, 99, 100, 101, 102, 103, 104, 105, 106, 107, 108, 109, 110, 111, 112, 113, 114, 115, 116, 117, 118, 119, 120, 121, 122, 123, 124, 125, 126, 127, 128, 129, 130, 131, 132, 133, 134, 135, 136, 137, 138, 139, 140, 141, 142, 143, 144, 145, 146, 147, 148, 149, 150, 151, 152, 153, 154, 155] (by decide +kernel) (by decide +kernel)
set_option maxRecDepth 20000 in
theorem gX11_ahead_X11_hour : GoodIn wsX11_ahead (wsV RX11 368 RX11 yX11_hour wsX11_hour) := goodIn_app (goodIn_of _ (by decide +kernel)) ggX11_ahead_X11_hour
set_option maxRecDepth 20000 in
theorem ggX11_ahead_X11_in : GoodIn wsX11_ahead wsX11_in := goodIn_r _ [12] (by decide +kernel) (by decide +kernel)
set_option maxRecDepth 20000 in
theorem gX11_ahead_X11_in : GoodIn wsX11_ahead (va_wsS RX11 118 yX11_in wsX11_in) := goodIn_app (goodIn_of _ (by decide +kernel)) ggX11_ahead_X11_in
set_option maxRecDepth 20000 in
theorem ggX11_ahead_X11_isLaw : GoodIn wsX11_ahead wsX11_isLaw := goodIn_r _ [8, 9, 114, 115, 116, 117, 118, 119, 120, 121, 122, 123, 124, 125, 126, 127, 128, 129, 130, 131, 132, 133, 134, 135, 136, 137, 138, 139, 140, 141, 142, 143, 144, 145, 146, 147, 148, 149, 150, 151, 152, 153, 154, 155] (by decide +kernel) (by decide +kernel)
set_option maxRecDepth 20000 in
theorem gX11_ahead_X11_isLaw : GoodIn wsX11_ahead (wsV RX11 363 RX11 yX11_isLaw wsX11_isLaw) := goodIn_app (goodIn_of _ (by decide +kernel)) ggX11_ahead_X11_isLaw
set_option maxRecDepth 20000 in
theorem ggX11_ahead_X11_jarOf : GoodIn wsX11_ahead wsX11_jarOf := goodIn_r _ [20, 3, 114, 115, 116, 117, 118, 119, 120, 121, 122, 123, 124, 125, 126, 127, 128, 129, 130, 131, 132, 133, 134, 135, 136, 137, 138, 139, 140, 141, 142, 143, 144, 145, 146, 147, 148, 149, 150, 151, 152, 153, 154, 155] (by decide +kernel) (by decide +kernel)
set_option maxRecDepth 20000 in
theorem gX11_ahead_X11_jarOf : GoodIn wsX11_ahead (wsV RX11 283 RX11 yX11_jarOf wsX11_jarOf) := goodIn_app (goodIn_of _ (by decide +kernel)) ggX11_ahead_X11_jarOf
set_option maxRecDepth 20000 in
theorem ggX11_ahead_X11_nodeOf : GoodIn wsX11_ahead wsX11_nodeOf := goodIn_r _ [50, 3, 114, 115, 116, 117, 118, 119, 120, 121, 122, 123, 124, 125, 126, 127, 128, 129, 130, 131, 132, 133, 134, 135, 136, 137, 138, 139, 140, 141, 142, 143, 144, 145, 146, 147, 148, 149, 150, 151, 152, 153, 154, 155] (by decide +kernel) (by decide +kernel)
set_option maxRecDepth 20000 in
theorem gX11_ahead_X11_nodeOf : GoodIn wsX11_ahead (wsV RX11 257 RX11 yX11_nodeOf wsX11_nodeOf) := goodIn_app (goodIn_of _ (by decide +kernel)) ggX11_ahead_X11_nodeOf

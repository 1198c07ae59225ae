set_option maxRecDepth 20000 in
theorem ggX11_guess_X11_canTry : GoodIn wsX11_guess wsX11_canTry := goodIn_r _ [11, 4, 2, 12, 13, 14, 10, 15, 16, 17, 18, 19, 20, 21, 22, 23, 106, 107, 108, 109, 110, 111, 112, 113, 114, 115, 116, 117, 118, 119, 120, 121, 122, 123, 124, 125, 126, 127, 128, 129, 130, 131, 132, 133, 134, 135, 136, 137, 138, 139, 140, 141, 142, 143, 144, 145, 146, 147] (by decide +kernel) (by decide +kernel)
set_option maxRecDepth 20000 in
theorem gX11_guess_X11_canTry : GoodIn wsX11_guess (wsV RX11 403 RX11 yX11_canTry wsX11_canTry) := goodIn_app (goodIn_of _ (by decide +kernel)) ggX11_guess_X11_canTry
set_option maxRecDepth 20000 in
theorem ggX11_guess_X11_in : GoodIn wsX11_guess wsX11_in := goodIn_r _ [19] (by decide +kernel) (by decide +kernel)
set_option maxRecDepth 20000 in
theorem gX11_guess_X11_in : GoodIn wsX11_guess (va_wsS RX11 118 yX11_in wsX11_in) := goodIn_app (goodIn_of _ (by decide +kernel)) ggX11_guess_X11_in
set_option maxRecDepth 20000 in
theorem ggX11_guess_X11_sets : GoodIn wsX11_guess wsX11_sets := goodIn_r _ [27, 28, 6, 29, 30, 31, 32, 106, 107, 108, 109, 110, 111, 112, 113, 114, 115, 116, 117, 118, 119, 120, 121, 122, 123, 124, 125, 126, 127, 128, 129, 130, 131, 132, 133, 134, 135, 136, 137, 138, 139, 140, 141, 142, 143, 144, 145, 146, 147] (by decide +kernel) (by decide +kernel)
set_option maxRecDepth 20000 in
theorem gX11_guess_X11_sets : GoodIn wsX11_guess (wsV RX11 407 RX11 yX11_sets wsX11_sets) := goodIn_app (goodIn_of _ (by decide +kernel)) ggX11_guess_X11_sets
set_option maxRecDepth 20000 in
theorem ggX11_guess_X11_travels : GoodIn wsX11_guess wsX11_travels := goodIn_r _ [88, 28, 29, 6, 30, 31, 32, 89, 90, 91, 92, 10, 93, 94, 95, 96, 97, 4, 98, 99, 100, 101, 41, 1, 42, 43, 44, 45, 46, 47, 48, 49, 50, 51, 52, 53, 54, 55, 56, 57, 58, 59, 60, 61, 62, 63, 64, 65, 66, 67, 68, 69, 70, 71, 72, 73, 74, 75, 76, 77, 78, 79, 80, 81, 82, 83, 84, 37, 38, 39, 40, 106, 107, 108, 109, 110, 111, 112, 113, 114, 115, 116, 117, 118, 119, 120, 121, 122, 123, 124, 125, 126, 127, 128, 129, 130, 131, 132, 133, 134, 135, 136, 137, 138, 139, 140, 141, 142, 143, 144, 145, 146, 147] (by decide +kernel) (by decide +kernel)
set_option maxRecDepth 20000 in
theorem gX11_guess_X11_travels : GoodIn wsX11_guess (wsV RX11 410 RX11 yX11_travels wsX11_travels) := goodIn_app (goodIn_of _ (by decide +kernel)) ggX11_guess_X11_travels
set_option maxRecDepth 20000 in
theorem ggX11_guess_X11_waits : GoodIn wsX11_guess wsX11_waits := goodIn_r _ [36, 29, 28, 6, 30, 31, 32, 37, 38, 39, 10, 40, 41, 42, 43, 44, 45, 46, 47, 48, 49, 4, 50, 51, 52, 53, 54, 55, 56, 57, 58, 59, 60, 61, 62, 63, 64, 65, 66, 67, 68, 69, 70, 71, 72, 73, 74, 75, 76, 77, 78, 79, 80, 81, 82, 83, 84, 106, 107, 108, 109, 110, 111, 112, 113, 114, 115, 116, 117, 118, 119, 120, 121, 122, 123, 124, 125, 126, 127, 128, 129, 130, 131, 132, 133, 134, 135, 136, 137, 138, 139, 140, 141, 142, 143, 144, 145, 146, 147] (by decide +kernel) (by decide +kernel)
set_option maxRecDepth 20000 in
theorem gX11_guess_X11_waits : GoodIn wsX11_guess (wsV RX11 439 RX11 yX11_waits wsX11_waits) := goodIn_app (goodIn_of _ (by decide +kernel)) ggX11_guess_X11_waits
set_option maxRecDepth 20000 in
theorem ggX11_guess_X11_waitsOtherwise : GoodIn wsX11_guess wsX11_waitsOtherwise := goodIn_r _ [105, 4, 5, 106, 107, 108, 109, 110, 111, 112, 113, 114, 115, 116, 117, 118, 119, 120, 121, 122, 123, 124, 125, 126, 127, 128, 129, 130, 131, 132, 133, 134, 135, 136, 137, 138, 139, 140, 141, 142, 143, 144, 145, 146, 147] (by decide +kernel) (by decide +kernel)
set_option maxRecDepth 20000 in
theorem gX11_guess_X11_waitsOtherwise : GoodIn wsX11_guess (wsV RX11 442 RX11 yX11_waitsOtherwise wsX11_waitsOtherwise) := goodIn_app (goodIn_of _ (by decide +kernel)) ggX11_guess_X11_waitsOtherwise

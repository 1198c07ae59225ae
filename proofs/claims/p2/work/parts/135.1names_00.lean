set_option maxRecDepth 20000 in
theorem ggX11_canServe_X11_bits : GoodIn wsX11_canServe wsX11_bits := goodIn_r _ [5] (by decide +kernel) (by decide +kernel)
set_option maxRecDepth 20000 in
theorem gX11_canServe_X11_bits : GoodIn wsX11_canServe (va_wsS RX11 450 yX11_bits wsX11_bits) := goodIn_app (goodIn_of _ (by decide +kernel)) ggX11_canServe_X11_bits

def wsX11_bits : List Cond := .code yX11_bits cX11_bits 3 (some .int) :: ([])

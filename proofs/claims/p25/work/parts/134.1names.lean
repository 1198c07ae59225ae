def ixX11_bits : List Nat := [1288]
def wsX11_bits : List Cond := .code yX11_bits cX11_bits 3 (some .int) :: ixX11_bits.map wt

def wsX11_four : List Cond := .code yX11_four cX11_four 3 none :: ([.fieldLink RX11 7 "SnowMulesModel" "tape" "[B", .fieldLink RX11 79 "SnowMulesModel" "taped" "I"] ++ wsX110)
def wsX11_feed : List Cond := .code yX11_feed cX11_feed 6 (some .int) :: ([.fieldLink RX11 79 "SnowMulesModel" "taped" "I", .methodLink RX11 83 yX11_four, .instanceMethod yX11_four, .selects RX11 yX11_four yX11_four, .initialized RX11, .code yX11_four cX11_four 3 none, .fieldLink RX11 7 "SnowMulesModel" "tape" "[B"] ++ wsX110)
def wsX11_end : List Cond := .code yX11_end cX11_end 2 (some .int) :: ([.fieldLink RX11 79 "SnowMulesModel" "taped" "I"] ++ wsX110)
def wsX11_fails : List Cond := .code yX11_fails cX11_fails 3 (some .boolean) :: ([.fieldLink RX11 87 "SnowMulesModel" "wrong" "I"] ++ wsX110)

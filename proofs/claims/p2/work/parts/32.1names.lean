def wsX4_setPass_r1 : List Cond := [Cond.fieldLink RX4 21 "SnowMules$World" "nodes" "LSnowMules$Table;", Cond.fieldLink RX4 34 "SnowMules$Scene" "heightBehind" "I", Cond.fieldLink RX4 38 "SnowMules$Scene" "heightAhead" "I", Cond.fieldLink RX4 41 "SnowMules$World" "passes" "LSnowMules$Table;", Cond.fieldLink RX4 44 "SnowMules$Scene" "hoursOfPass" "I", Cond.fieldLink RX4 11 "SnowMules$Scene" "words" "[I", Cond.methodLink RX4 31 yX9_otherEnd, Cond.instanceMethod yX9_otherEnd, Cond.selects RX9 yX9_otherEnd yX9_otherEnd, Cond.initialized RX9, Cond.code yX9_otherEnd cX9_otherEnd 5 (some .int), Cond.fieldLink RX9 20 "SnowMules$World" "passes" "LSnowMules$Table;", Cond.methodLink RX9 56 yX6_has, Cond.instanceMethod yX6_has, Cond.selects RX6 yX6_has yX6_has, Cond.initialized RX6, Cond.code yX6_has cX6_has 2 (some .boolean), Cond.fieldLink RX6 25 "SnowMules$Table" "size" "I", Cond.methodLink RX9 52 yX6_get, Cond.instanceMethod yX6_get, Cond.selects RX6 yX6_get yX6_get, Cond.code yX6_get cX6_get 4 (some .int), Cond.fieldLink RX6 9 "SnowMules$Table" "width" "I", Cond.fieldLink RX6 21 "SnowMules$Table" "cells" "[I"]
def wsX4_setPass_r2 : List Cond := [Cond.methodLink RX4 25 yX6_get]
def wsX4_setPass : List Cond := .code yX4_setPass cX4_setPass 5 none :: ((wsX4_setPass_r1 ++ wsX4_setPass_r2) ++ wsX90 ++ wsX40 ++ wsX60)
def wsX4_setGone : List Cond := .code yX4_setGone cX4_setGone 3 none :: ([.fieldLink RX4 34 "SnowMules$Scene" "heightBehind" "I", .fieldLink RX4 44 "SnowMules$Scene" "hoursOfPass" "I", .fieldLink RX4 38 "SnowMules$Scene" "heightAhead" "I", .fieldLink RX4 11 "SnowMules$Scene" "words" "[I"] ++ wsX40)
def wsX4_setNode : List Cond := .code yX4_setNode cX4_setNode 3 none :: ([.fieldLink RX4 11 "SnowMules$Scene" "words" "[I", .fieldLink RX4 21 "SnowMules$World" "nodes" "LSnowMules$Table;", .methodLink RX4 25 yX6_get, .instanceMethod yX6_get, .selects RX6 yX6_get yX6_get, .initialized RX6, .code yX6_get cX6_get 4 (some .int), .fieldLink RX6 9 "SnowMules$Table" "width" "I", .fieldLink RX6 21 "SnowMules$Table" "cells" "[I"] ++ wsX40 ++ wsX90 ++ wsX60)
def wsX4_setHour : List Cond := .code yX4_setHour cX4_setHour 3 none :: ([.fieldLink RX4 11 "SnowMules$Scene" "words" "[I", .methodLink RX4 15 yX9_monthAt, .instanceMethod yX9_monthAt, .selects RX9 yX9_monthAt yX9_monthAt, .initialized RX9, .code yX9_monthAt cX9_monthAt 2 (some .int), .fieldLink RX9 46 "SnowMules$World" "firstMonth" "I"] ++ wsX40 ++ wsX90)
def wsX4_setLoad : List Cond := .code yX4_setLoad cX4_setLoad 4 none :: ([.fieldLink RX4 11 "SnowMules$Scene" "words" "[I"] ++ wsX40)
set_option maxRecDepth 20000 in
theorem ggX4_setHour_X9_monthAt : GoodIn wsX4_setHour wsX9_monthAt := goodIn_r _ [6, 7, 12, 13, 14, 15, 16, 17, 18, 19, 20, 21] (by decide +kernel) (by decide +kernel)
set_option maxRecDepth 20000 in
theorem gX4_setHour_X9_monthAt : GoodIn wsX4_setHour (wsV RX4 15 RX9 yX9_monthAt wsX9_monthAt) := goodIn_app (goodIn_of _ (by decide +kernel)) ggX4_setHour_X9_monthAt
set_option maxRecDepth 20000 in
theorem ggX4_setNode_X6_get : GoodIn wsX4_setNode wsX6_get := goodIn_r _ [7, 8, 9, 24, 25, 26] (by decide +kernel) (by decide +kernel)
set_option maxRecDepth 20000 in
theorem gX4_setNode_X6_get : GoodIn wsX4_setNode (wsV RX4 25 RX6 yX6_get wsX6_get) := goodIn_app (goodIn_of _ (by decide +kernel)) ggX4_setNode_X6_get
set_option maxRecDepth 20000 in
theorem ggX4_setPass_X6_get : GoodIn wsX4_setPass wsX6_get := goodIn_r _ [22, 23, 24, 40, 41, 42] (by decide +kernel) (by decide +kernel)
set_option maxRecDepth 20000 in
theorem gX4_setPass_X6_get : GoodIn wsX4_setPass (wsV RX4 25 RX6 yX6_get wsX6_get) := goodIn_app (goodIn_of _ (by decide +kernel)) ggX4_setPass_X6_get
set_option maxRecDepth 20000 in
theorem ggX4_setPass_X9_otherEnd : GoodIn wsX4_setPass wsX9_otherEnd := goodIn_r _ [11, 12, 13, 14, 15, 16, 17, 18, 19, 20, 21, 22, 23, 24, 26, 27, 28, 29, 30, 31, 32, 33, 34, 35, 40, 41, 42] (by decide +kernel) (by decide +kernel)
set_option maxRecDepth 20000 in
theorem gX4_setPass_X9_otherEnd : GoodIn wsX4_setPass (wsV RX4 31 RX9 yX9_otherEnd wsX9_otherEnd) := goodIn_app (goodIn_of _ (by decide +kernel)) ggX4_setPass_X9_otherEnd

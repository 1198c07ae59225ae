def wsX9_otherEnd : List Cond := .code yX9_otherEnd cX9_otherEnd 5 (some .int) :: ([.fieldLink RX9 20 "SnowMules$World" "passes" "LSnowMules$Table;", .methodLink RX9 56 yX6_has, .instanceMethod yX6_has, .selects RX6 yX6_has yX6_has, .initialized RX6, .code yX6_has cX6_has 2 (some .boolean), .fieldLink RX6 25 "SnowMules$Table" "size" "I", .methodLink RX9 52 yX6_get, .instanceMethod yX6_get, .selects RX6 yX6_get yX6_get, .code yX6_get cX6_get 4 (some .int), .fieldLink RX6 9 "SnowMules$Table" "width" "I", .fieldLink RX6 21 "SnowMules$Table" "cells" "[I"] ++ wsX90 ++ wsX60)
def wsX9_monthAt : List Cond := .code yX9_monthAt cX9_monthAt 2 (some .int) :: ([.fieldLink RX9 46 "SnowMules$World" "firstMonth" "I"] ++ wsX90)
def wsX9_standAt : List Cond := .code yX9_standAt cX9_standAt 3 none :: ([.fieldLink RX9 23 "SnowMules$World" "jars" "LSnowMules$Table;", .methodLink RX9 66 yX6_put, .instanceMethod yX6_put, .selects RX6 yX6_put yX6_put, .initialized RX6, .code yX6_put cX6_put 5 none, .fieldLink RX6 9 "SnowMules$Table" "width" "I", .fieldLink RX6 21 "SnowMules$Table" "cells" "[I"] ++ wsX90 ++ wsX60)
def wsX9_bring : List Cond := .code yX9_bring cX9_bring 5 (some .int) :: ([.fieldLink RX9 14 "SnowMules$World" "nodes" "LSnowMules$Table;", .constant RX9 73 (999999), .methodLink RX9 74 Lib.Math.min.name, .static Lib.Math.min.name, .initialized "java/lang/Math", .code Lib.Math.min.name Lib.Math.min.code 2 (some .int), .methodLink RX9 52 yX6_get, .instanceMethod yX6_get, .selects RX6 yX6_get yX6_get, .initialized RX6, .code yX6_get cX6_get 4 (some .int), .fieldLink RX6 9 "SnowMules$Table" "width" "I", .fieldLink RX6 21 "SnowMules$Table" "cells" "[I", .methodLink RX9 66 yX6_put, .instanceMethod yX6_put, .selects RX6 yX6_put yX6_put, .code yX6_put cX6_put 5 none] ++ wsX90 ++ wsX60)
def wsX9_draw : List Cond := .code yX9_draw cX9_draw 1 (some .int) :: ([.fieldLink RX9 49 "SnowMules$World" "x" "I", .constantLong RX9 83 (1103515245), .constantLong RX9 85 (12345), .constantLong RX9 87 (2147483647), .constant RX9 89 (65536)] ++ wsX90)
def wsX9_lose : List Cond := .code yX9_lose cX9_lose 2 none :: ([.fieldLink RX9 23 "SnowMules$World" "jars" "LSnowMules$Table;", .methodLink RX9 70 yX9_standAt, .instanceMethod yX9_standAt, .selects RX9 yX9_standAt yX9_standAt, .initialized RX9, .code yX9_standAt cX9_standAt 3 none, .methodLink RX9 66 yX6_put, .instanceMethod yX6_put, .selects RX6 yX6_put yX6_put, .initialized RX6, .code yX6_put cX6_put 5 none, .fieldLink RX6 9 "SnowMules$Table" "width" "I", .fieldLink RX6 21 "SnowMules$Table" "cells" "[I"] ++ wsX90 ++ wsX60)
def wsX9_nodeOf : List Cond := .code yX9_nodeOf cX9_nodeOf 3 (some .int) :: ([.fieldLink RX9 23 "SnowMules$World" "jars" "LSnowMules$Table;", .methodLink RX9 56 yX6_has, .instanceMethod yX6_has, .selects RX6 yX6_has yX6_has, .initialized RX6, .code yX6_has cX6_has 2 (some .boolean), .fieldLink RX6 25 "SnowMules$Table" "size" "I", .methodLink RX9 52 yX6_get, .instanceMethod yX6_get, .selects RX6 yX6_get yX6_get, .code yX6_get cX6_get 4 (some .int), .fieldLink RX6 9 "SnowMules$Table" "width" "I", .fieldLink RX6 21 "SnowMules$Table" "cells" "[I"] ++ wsX90 ++ wsX60)
def wsX9_copyFrom : List Cond := .code yX9_copyFrom cX9_copyFrom 2 none :: ([.fieldLink RX9 14 "SnowMules$World" "nodes" "LSnowMules$Table;", .fieldLink RX9 20 "SnowMules$World" "passes" "LSnowMules$Table;", .fieldLink RX9 23 "SnowMules$World" "jars" "LSnowMules$Table;", .fieldLink RX9 26 "SnowMules$World" "orders" "LSnowMules$Table;", .fieldLink RX9 29 "SnowMules$World" "feasts" "LSnowMules$Table;", .fieldLink RX9 32 "SnowMules$World" "way" "LSnowMules$Table;", .fieldLink RX9 35 "SnowMules$World" "wayStart" "I", .fieldLink RX9 43 "SnowMules$World" "now" "I", .fieldLink RX9 46 "SnowMules$World" "firstMonth" "I", .fieldLink RX9 49 "SnowMules$World" "x" "I", .methodLink RX9 39 yX6_copyFrom, .instanceMethod yX6_copyFrom, .selects RX6 yX6_copyFrom yX6_copyFrom, .initialized RX6, .code yX6_copyFrom cX6_copyFrom 2 none, .fieldLink RX6 21 "SnowMules$Table" "cells" "[I", .methodLink RX6 28 arraycopyName, .native arraycopyName, .static arraycopyName, .initialized "java/lang/System", .fieldLink RX6 25 "SnowMules$Table" "size" "I"] ++ wsX90 ++ wsX60)
def wsX9_hasSnow : List Cond := .code yX9_hasSnow cX9_hasSnow 3 (some .boolean) :: ([.fieldLink RX9 14 "SnowMules$World" "nodes" "LSnowMules$Table;", .methodLink RX9 52 yX6_get, .instanceMethod yX6_get, .selects RX6 yX6_get yX6_get, .initialized RX6, .code yX6_get cX6_get 4 (some .int), .fieldLink RX6 9 "SnowMules$Table" "width" "I", .fieldLink RX6 21 "SnowMules$Table" "cells" "[I"] ++ wsX90 ++ wsX60)
def wsX9_wayEnd : List Cond := .code yX9_wayEnd cX9_wayEnd 3 (some .int) :: ([.fieldLink RX9 35 "SnowMules$World" "wayStart" "I", .fieldLink RX9 32 "SnowMules$World" "way" "LSnowMules$Table;", .fieldLink RX9 60 "SnowMules$Table" "size" "I", .methodLink RX9 52 yX6_get, .instanceMethod yX6_get, .selects RX6 yX6_get yX6_get, .initialized RX6, .code yX6_get cX6_get 4 (some .int), .fieldLink RX6 9 "SnowMules$Table" "width" "I", .fieldLink RX6 21 "SnowMules$Table" "cells" "[I", .methodLink RX9 63 yX9_otherEnd, .instanceMethod yX9_otherEnd, .selects RX9 yX9_otherEnd yX9_otherEnd, .initialized RX9, .code yX9_otherEnd cX9_otherEnd 5 (some .int), .fieldLink RX9 20 "SnowMules$World" "passes" "LSnowMules$Table;", .methodLink RX9 56 yX6_has, .instanceMethod yX6_has, .selects RX6 yX6_has yX6_has, .code yX6_has cX6_has 2 (some .boolean), .fieldLink RX6 25 "SnowMules$Table" "size" "I"] ++ wsX90 ++ wsX60)
def wsX9_wayHas : List Cond := .code yX9_wayHas cX9_wayHas 4 (some .boolean) :: ([.fieldLink RX9 35 "SnowMules$World" "wayStart" "I", .fieldLink RX9 32 "SnowMules$World" "way" "LSnowMules$Table;", .fieldLink RX9 60 "SnowMules$Table" "size" "I", .methodLink RX9 52 yX6_get, .instanceMethod yX6_get, .selects RX6 yX6_get yX6_get, .initialized RX6, .code yX6_get cX6_get 4 (some .int), .fieldLink RX6 9 "SnowMules$Table" "width" "I", .fieldLink RX6 21 "SnowMules$Table" "cells" "[I", .methodLink RX9 63 yX9_otherEnd, .instanceMethod yX9_otherEnd, .selects RX9 yX9_otherEnd yX9_otherEnd, .initialized RX9, .code yX9_otherEnd cX9_otherEnd 5 (some .int), .fieldLink RX9 20 "SnowMules$World" "passes" "LSnowMules$Table;", .methodLink RX9 56 yX6_has, .instanceMethod yX6_has, .selects RX6 yX6_has yX6_has, .code yX6_has cX6_has 2 (some .boolean), .fieldLink RX6 25 "SnowMules$Table" "size" "I"] ++ wsX90 ++ wsX60)
def wsX9_jarsAt : List Cond := .code yX9_jarsAt cX9_jarsAt 4 (some .int) :: ([.fieldLink RX9 23 "SnowMules$World" "jars" "LSnowMules$Table;", .fieldLink RX9 60 "SnowMules$Table" "size" "I", .methodLink RX9 52 yX6_get, .instanceMethod yX6_get, .selects RX6 yX6_get yX6_get, .initialized RX6, .code yX6_get cX6_get 4 (some .int), .fieldLink RX6 9 "SnowMules$Table" "width" "I", .fieldLink RX6 21 "SnowMules$Table" "cells" "[I"] ++ wsX90 ++ wsX60)
def wsX9_jarsThatAre : List Cond := .code yX9_jarsThatAre cX9_jarsThatAre 1 (some .int) :: ([.fieldLink RX9 23 "SnowMules$World" "jars" "LSnowMules$Table;", .fieldLink RX9 60 "SnowMules$Table" "size" "I", .methodLink RX9 79 yX9_jarsAt, .instanceMethod yX9_jarsAt, .selects RX9 yX9_jarsAt yX9_jarsAt, .initialized RX9, .code yX9_jarsAt cX9_jarsAt 4 (some .int), .methodLink RX9 52 yX6_get, .instanceMethod yX6_get, .selects RX6 yX6_get yX6_get, .initialized RX6, .code yX6_get cX6_get 4 (some .int), .fieldLink RX6 9 "SnowMules$Table" "width" "I", .fieldLink RX6 21 "SnowMules$Table" "cells" "[I"] ++ wsX90 ++ wsX60)
def wsX9_dropsOfAll : List Cond := .code yX9_dropsOfAll cX9_dropsOfAll 3 (some .int) :: ([.fieldLink RX9 23 "SnowMules$World" "jars" "LSnowMules$Table;", .fieldLink RX9 60 "SnowMules$Table" "size" "I", .fieldLink RX9 14 "SnowMules$World" "nodes" "LSnowMules$Table;", .methodLink RX9 52 yX6_get, .instanceMethod yX6_get, .selects RX6 yX6_get yX6_get, .initialized RX6, .code yX6_get cX6_get 4 (some .int), .fieldLink RX6 9 "SnowMules$Table" "width" "I", .fieldLink RX6 21 "SnowMules$Table" "cells" "[I"] ++ wsX90 ++ wsX60)
set_option maxRecDepth 20000 in
theorem ggX9_bring_X6_get : GoodIn wsX9_bring wsX6_get := goodIn_r _ [11, 12, 13, 28, 29, 30] (by decide +kernel) (by decide +kernel)
set_option maxRecDepth 20000 in
theorem gX9_bring_X6_get : GoodIn wsX9_bring (wsV RX9 52 RX6 yX6_get wsX6_get) := goodIn_app (goodIn_of _ (by decide +kernel)) ggX9_bring_X6_get
set_option maxRecDepth 20000 in
theorem ggX9_bring_X6_put : GoodIn wsX9_bring wsX6_put := goodIn_r _ [17, 12, 13, 28, 29, 30] (by decide +kernel) (by decide +kernel)
set_option maxRecDepth 20000 in
theorem gX9_bring_X6_put : GoodIn wsX9_bring (wsV RX9 66 RX6 yX6_put wsX6_put) := goodIn_app (goodIn_of _ (by decide +kernel)) ggX9_bring_X6_put
set_option maxRecDepth 20000 in
theorem ggX9_copyFrom_X6_copyFrom : GoodIn wsX9_copyFrom wsX6_copyFrom := goodIn_r _ [15, 16, 17, 18, 19, 20, 21, 32, 33, 34] (by decide +kernel) (by decide +kernel)
set_option maxRecDepth 20000 in
theorem gX9_copyFrom_X6_copyFrom : GoodIn wsX9_copyFrom (wsV RX9 39 RX6 yX6_copyFrom wsX6_copyFrom) := goodIn_app (goodIn_of _ (by decide +kernel)) ggX9_copyFrom_X6_copyFrom
set_option maxRecDepth 20000 in
theorem ggX9_dropsOfAll_X6_get : GoodIn wsX9_dropsOfAll wsX6_get := goodIn_r _ [8, 9, 10, 21, 22, 23] (by decide +kernel) (by decide +kernel)
set_option maxRecDepth 20000 in
theorem gX9_dropsOfAll_X6_get : GoodIn wsX9_dropsOfAll (wsV RX9 52 RX6 yX6_get wsX6_get) := goodIn_app (goodIn_of _ (by decide +kernel)) ggX9_dropsOfAll_X6_get
set_option maxRecDepth 20000 in
theorem ggX9_hasSnow_X6_get : GoodIn wsX9_hasSnow wsX6_get := goodIn_r _ [6, 7, 8, 19, 20, 21] (by decide +kernel) (by decide +kernel)
set_option maxRecDepth 20000 in
theorem gX9_hasSnow_X6_get : GoodIn wsX9_hasSnow (wsV RX9 52 RX6 yX6_get wsX6_get) := goodIn_app (goodIn_of _ (by decide +kernel)) ggX9_hasSnow_X6_get
set_option maxRecDepth 20000 in
theorem ggX9_jarsAt_X6_get : GoodIn wsX9_jarsAt wsX6_get := goodIn_r _ [7, 8, 9, 20, 21, 22] (by decide +kernel) (by decide +kernel)
set_option maxRecDepth 20000 in
theorem gX9_jarsAt_X6_get : GoodIn wsX9_jarsAt (wsV RX9 52 RX6 yX6_get wsX6_get) := goodIn_app (goodIn_of _ (by decide +kernel)) ggX9_jarsAt_X6_get
set_option maxRecDepth 20000 in
theorem ggX9_jarsThatAre_X9_jarsAt : GoodIn wsX9_jarsThatAre wsX9_jarsAt := goodIn_r _ [7, 1, 2, 8, 9, 10, 11, 12, 13, 14, 15, 16, 17, 18, 19, 20, 21, 22, 23, 24, 25, 26, 27] (by decide +kernel) (by decide +kernel)
set_option maxRecDepth 20000 in
theorem gX9_jarsThatAre_X9_jarsAt : GoodIn wsX9_jarsThatAre (wsV RX9 79 RX9 yX9_jarsAt wsX9_jarsAt) := goodIn_app (goodIn_of _ (by decide +kernel)) ggX9_jarsThatAre_X9_jarsAt
set_option maxRecDepth 20000 in
theorem ggX9_lose_X6_put : GoodIn wsX9_lose wsX6_put := goodIn_r _ [11, 12, 13, 24, 25, 26] (by decide +kernel) (by decide +kernel)
set_option maxRecDepth 20000 in
theorem gX9_lose_X6_put : GoodIn wsX9_lose (wsV RX9 66 RX6 yX6_put wsX6_put) := goodIn_app (goodIn_of _ (by decide +kernel)) ggX9_lose_X6_put
set_option maxRecDepth 20000 in
theorem ggX9_lose_X9_standAt : GoodIn wsX9_lose wsX9_standAt := goodIn_r _ [6, 1, 7, 8, 9, 10, 11, 12, 13, 14, 15, 16, 17, 18, 19, 20, 21, 22, 23, 24, 25, 26] (by decide +kernel) (by decide +kernel)
set_option maxRecDepth 20000 in
theorem gX9_lose_X9_standAt : GoodIn wsX9_lose (wsV RX9 70 RX9 yX9_standAt wsX9_standAt) := goodIn_app (goodIn_of _ (by decide +kernel)) ggX9_lose_X9_standAt
set_option maxRecDepth 20000 in
theorem ggX9_nodeOf_X6_get : GoodIn wsX9_nodeOf wsX6_get := goodIn_r _ [11, 12, 13, 24, 25, 26] (by decide +kernel) (by decide +kernel)
set_option maxRecDepth 20000 in
theorem gX9_nodeOf_X6_get : GoodIn wsX9_nodeOf (wsV RX9 52 RX6 yX6_get wsX6_get) := goodIn_app (goodIn_of _ (by decide +kernel)) ggX9_nodeOf_X6_get
set_option maxRecDepth 20000 in
theorem ggX9_nodeOf_X6_has : GoodIn wsX9_nodeOf wsX6_has := goodIn_r _ [6, 7, 24, 25, 26] (by decide +kernel) (by decide +kernel)
set_option maxRecDepth 20000 in
theorem gX9_nodeOf_X6_has : GoodIn wsX9_nodeOf (wsV RX9 56 RX6 yX6_has wsX6_has) := goodIn_app (goodIn_of _ (by decide +kernel)) ggX9_nodeOf_X6_has
set_option maxRecDepth 20000 in
theorem ggX9_otherEnd_X6_get : GoodIn wsX9_otherEnd wsX6_get := goodIn_r _ [11, 12, 13, 24, 25, 26] (by decide +kernel) (by decide +kernel)
set_option maxRecDepth 20000 in
theorem gX9_otherEnd_X6_get : GoodIn wsX9_otherEnd (wsV RX9 52 RX6 yX6_get wsX6_get) := goodIn_app (goodIn_of _ (by decide +kernel)) ggX9_otherEnd_X6_get
set_option maxRecDepth 20000 in
theorem ggX9_otherEnd_X6_has : GoodIn wsX9_otherEnd wsX6_has := goodIn_r _ [6, 7, 24, 25, 26] (by decide +kernel) (by decide +kernel)
set_option maxRecDepth 20000 in
theorem gX9_otherEnd_X6_has : GoodIn wsX9_otherEnd (wsV RX9 56 RX6 yX6_has wsX6_has) := goodIn_app (goodIn_of _ (by decide +kernel)) ggX9_otherEnd_X6_has
set_option maxRecDepth 20000 in
theorem ggX9_standAt_X6_put : GoodIn wsX9_standAt wsX6_put := goodIn_r _ [6, 7, 8, 19, 20, 21] (by decide +kernel) (by decide +kernel)
set_option maxRecDepth 20000 in
theorem gX9_standAt_X6_put : GoodIn wsX9_standAt (wsV RX9 66 RX6 yX6_put wsX6_put) := goodIn_app (goodIn_of _ (by decide +kernel)) ggX9_standAt_X6_put
set_option maxRecDepth 20000 in
theorem ggX9_wayEnd_X6_get : GoodIn wsX9_wayEnd wsX6_get := goodIn_r _ [8, 9, 10, 32, 33, 34] (by decide +kernel) (by decide +kernel)
set_option maxRecDepth 20000 in
theorem gX9_wayEnd_X6_get : GoodIn wsX9_wayEnd (wsV RX9 52 RX6 yX6_get wsX6_get) := goodIn_app (goodIn_of _ (by decide +kernel)) ggX9_wayEnd_X6_get
set_option maxRecDepth 20000 in
theorem ggX9_wayEnd_X9_otherEnd : GoodIn wsX9_wayEnd wsX9_otherEnd := goodIn_r _ [15, 16, 17, 18, 19, 7, 20, 21, 4, 5, 6, 8, 9, 10, 22, 23, 24, 25, 26, 27, 28, 29, 30, 31, 32, 33, 34] (by decide +kernel) (by decide +kernel)
set_option maxRecDepth 20000 in
theorem gX9_wayEnd_X9_otherEnd : GoodIn wsX9_wayEnd (wsV RX9 63 RX9 yX9_otherEnd wsX9_otherEnd) := goodIn_app (goodIn_of _ (by decide +kernel)) ggX9_wayEnd_X9_otherEnd
set_option maxRecDepth 20000 in
theorem ggX9_wayHas_X6_get : GoodIn wsX9_wayHas wsX6_get := goodIn_r _ [8, 9, 10, 32, 33, 34] (by decide +kernel) (by decide +kernel)
set_option maxRecDepth 20000 in
theorem gX9_wayHas_X6_get : GoodIn wsX9_wayHas (wsV RX9 52 RX6 yX6_get wsX6_get) := goodIn_app (goodIn_of _ (by decide +kernel)) ggX9_wayHas_X6_get
set_option maxRecDepth 20000 in
theorem ggX9_wayHas_X9_otherEnd : GoodIn wsX9_wayHas wsX9_otherEnd := goodIn_r _ [15, 16, 17, 18, 19, 7, 20, 21, 4, 5, 6, 8, 9, 10, 22, 23, 24, 25, 26, 27, 28, 29, 30, 31, 32, 33, 34] (by decide +kernel) (by decide +kernel)
set_option maxRecDepth 20000 in
theorem gX9_wayHas_X9_otherEnd : GoodIn wsX9_wayHas (wsV RX9 63 RX9 yX9_otherEnd wsX9_otherEnd) := goodIn_app (goodIn_of _ (by decide +kernel)) ggX9_wayHas_X9_otherEnd

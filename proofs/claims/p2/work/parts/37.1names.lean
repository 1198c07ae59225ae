def wsX3_open : List Cond := .code yX3_open cX3_open 2 none :: ([.fieldLink RX3 9 "SnowMules$Market" "offers" "[I"] ++ wsX30)
def wsX3_offer : List Cond := .code yX3_offer cX3_offer 3 none :: ([.fieldLink RX3 9 "SnowMules$Market" "offers" "[I"] ++ wsX30)
def wsX3_jarFor : List Cond := .code yX3_jarFor cX3_jarFor 2 (some .int) :: ([.fieldLink RX3 18 "SnowMules$Market" "world" "LSnowMules$World;", .fieldLink RX3 22 "SnowMules$World" "orders" "LSnowMules$Table;", .fieldLink RX3 15 "SnowMules$Market" "chosen" "[I", .methodLink RX3 28 yX6_has, .instanceMethod yX6_has, .selects RX6 yX6_has yX6_has, .initialized RX6, .code yX6_has cX6_has 2 (some .boolean), .fieldLink RX6 25 "SnowMules$Table" "size" "I"] ++ wsX30 ++ wsX90 ++ wsX60)
def wsX3_priceOf : List Cond := .code yX3_priceOf cX3_priceOf 4 (some .int) :: ([.fieldLink RX3 18 "SnowMules$Market" "world" "LSnowMules$World;", .fieldLink RX3 22 "SnowMules$World" "orders" "LSnowMules$Table;", .methodLink RX3 49 yX6_get, .instanceMethod yX6_get, .selects RX6 yX6_get yX6_get, .initialized RX6, .code yX6_get cX6_get 4 (some .int), .fieldLink RX6 9 "SnowMules$Table" "width" "I", .fieldLink RX6 21 "SnowMules$Table" "cells" "[I"] ++ wsX30 ++ wsX90 ++ wsX60)
def wsJ6_bitCount_0f7a4 : List Cond := .code yJ6_bitCount_0f7a4 cJ6_bitCount_0f7a4 1 (some .int) :: ([.constant RJ6 265 (1431655765), .constant RJ6 266 (858993459), .constant RJ6 267 (252645135)])
def wsX3_canServe : List Cond := .code yX3_canServe cX3_canServe 6 (some .boolean) :: ([.fieldLink RX3 9 "SnowMules$Market" "offers" "[I", .methodLink RX3 60 yJ6_bitCount_0f7a4, .static yJ6_bitCount_0f7a4, .initialized RJ6, .code yJ6_bitCount_0f7a4 cJ6_bitCount_0f7a4 1 (some .int), .constant RJ6 265 (1431655765), .constant RJ6 266 (858993459), .constant RJ6 267 (252645135)] ++ wsX30)
def wsX3_greatest_r1 : List Cond := [Cond.fieldLink RX3 18 "SnowMules$Market" "world" "LSnowMules$World;", Cond.fieldLink RX3 22 "SnowMules$World" "orders" "LSnowMules$Table;", Cond.fieldLink RX3 42 "SnowMules$Table" "size" "I", Cond.methodLink RX3 52 yX3_priceOf, Cond.instanceMethod yX3_priceOf, Cond.selects RX3 yX3_priceOf yX3_priceOf, Cond.initialized RX3, Cond.code yX3_priceOf cX3_priceOf 4 (some .int), Cond.methodLink RX3 49 yX6_get, Cond.instanceMethod yX6_get, Cond.selects RX6 yX6_get yX6_get, Cond.initialized RX6, Cond.code yX6_get cX6_get 4 (some .int), Cond.fieldLink RX6 9 "SnowMules$Table" "width" "I", Cond.fieldLink RX6 21 "SnowMules$Table" "cells" "[I", Cond.methodLink RX3 56 yX3_canServe, Cond.instanceMethod yX3_canServe, Cond.selects RX3 yX3_canServe yX3_canServe, Cond.code yX3_canServe cX3_canServe 6 (some .boolean), Cond.fieldLink RX3 9 "SnowMules$Market" "offers" "[I", Cond.methodLink RX3 60 yJ6_bitCount_0f7a4, Cond.static yJ6_bitCount_0f7a4, Cond.initialized RJ6, Cond.code yJ6_bitCount_0f7a4 cJ6_bitCount_0f7a4 1 (some .int)]
def wsX3_greatest_r2 : List Cond := [Cond.constant RJ6 265 (1431655765), Cond.constant RJ6 266 (858993459), Cond.constant RJ6 267 (252645135)]
def wsX3_greatest : List Cond := .code yX3_greatest cX3_greatest 7 (some .int) :: ((wsX3_greatest_r1 ++ wsX3_greatest_r2) ++ wsX30 ++ wsX90 ++ wsX60)
def wsX3_firstJar_r1 : List Cond := [Cond.fieldLink RX3 18 "SnowMules$Market" "world" "LSnowMules$World;", Cond.fieldLink RX3 22 "SnowMules$World" "orders" "LSnowMules$Table;", Cond.fieldLink RX3 9 "SnowMules$Market" "offers" "[I", Cond.methodLink RX3 49 yX6_get, Cond.instanceMethod yX6_get, Cond.selects RX6 yX6_get yX6_get, Cond.initialized RX6, Cond.code yX6_get cX6_get 4 (some .int), Cond.fieldLink RX6 9 "SnowMules$Table" "width" "I", Cond.fieldLink RX6 21 "SnowMules$Table" "cells" "[I", Cond.methodLink RX3 34 yX3_greatest, Cond.instanceMethod yX3_greatest, Cond.selects RX3 yX3_greatest yX3_greatest, Cond.initialized RX3, Cond.code yX3_greatest cX3_greatest 7 (some .int), Cond.fieldLink RX3 42 "SnowMules$Table" "size" "I", Cond.methodLink RX3 52 yX3_priceOf, Cond.instanceMethod yX3_priceOf, Cond.selects RX3 yX3_priceOf yX3_priceOf, Cond.code yX3_priceOf cX3_priceOf 4 (some .int), Cond.methodLink RX3 56 yX3_canServe, Cond.instanceMethod yX3_canServe, Cond.selects RX3 yX3_canServe yX3_canServe, Cond.code yX3_canServe cX3_canServe 6 (some .boolean)]
def wsX3_firstJar_r2 : List Cond := [Cond.methodLink RX3 60 yJ6_bitCount_0f7a4, Cond.static yJ6_bitCount_0f7a4, Cond.initialized RJ6, Cond.code yJ6_bitCount_0f7a4 cJ6_bitCount_0f7a4 1 (some .int), Cond.constant RJ6 265 (1431655765), Cond.constant RJ6 266 (858993459), Cond.constant RJ6 267 (252645135)]
def wsX3_firstJar : List Cond := .code yX3_firstJar cX3_firstJar 8 (some .int) :: ((wsX3_firstJar_r1 ++ wsX3_firstJar_r2) ++ wsX30 ++ wsX90 ++ wsX60)
def wsX3_choose_r1 : List Cond := [Cond.fieldLink RX3 38 "SnowMules$Market" "paid" "I", Cond.fieldLink RX3 18 "SnowMules$Market" "world" "LSnowMules$World;", Cond.fieldLink RX3 22 "SnowMules$World" "orders" "LSnowMules$Table;", Cond.fieldLink RX3 42 "SnowMules$Table" "size" "I", Cond.fieldLink RX3 15 "SnowMules$Market" "chosen" "[I", Cond.methodLink RX3 34 yX3_greatest, Cond.instanceMethod yX3_greatest, Cond.selects RX3 yX3_greatest yX3_greatest, Cond.initialized RX3, Cond.code yX3_greatest cX3_greatest 7 (some .int), Cond.methodLink RX3 52 yX3_priceOf, Cond.instanceMethod yX3_priceOf, Cond.selects RX3 yX3_priceOf yX3_priceOf, Cond.code yX3_priceOf cX3_priceOf 4 (some .int), Cond.methodLink RX3 49 yX6_get, Cond.instanceMethod yX6_get, Cond.selects RX6 yX6_get yX6_get, Cond.initialized RX6, Cond.code yX6_get cX6_get 4 (some .int), Cond.fieldLink RX6 9 "SnowMules$Table" "width" "I", Cond.fieldLink RX6 21 "SnowMules$Table" "cells" "[I", Cond.methodLink RX3 56 yX3_canServe, Cond.instanceMethod yX3_canServe, Cond.selects RX3 yX3_canServe yX3_canServe]
def wsX3_choose_r2 : List Cond := [Cond.code yX3_canServe cX3_canServe 6 (some .boolean), Cond.fieldLink RX3 9 "SnowMules$Market" "offers" "[I", Cond.methodLink RX3 60 yJ6_bitCount_0f7a4, Cond.static yJ6_bitCount_0f7a4, Cond.initialized RJ6, Cond.code yJ6_bitCount_0f7a4 cJ6_bitCount_0f7a4 1 (some .int), Cond.constant RJ6 265 (1431655765), Cond.constant RJ6 266 (858993459), Cond.constant RJ6 267 (252645135), Cond.methodLink RX3 45 yX3_firstJar, Cond.instanceMethod yX3_firstJar, Cond.selects RX3 yX3_firstJar yX3_firstJar, Cond.code yX3_firstJar cX3_firstJar 8 (some .int)]
def wsX3_choose : List Cond := .code yX3_choose cX3_choose 5 none :: ((wsX3_choose_r1 ++ wsX3_choose_r2) ++ wsX30 ++ wsX90 ++ wsX60)
set_option maxRecDepth 20000 in
theorem ggX3_canServe_J6_bitCount_0f7a4 : GoodIn wsX3_canServe wsJ6_bitCount_0f7a4 := goodIn_r _ [5, 6, 7, 8] (by decide +kernel) (by decide +kernel)
set_option maxRecDepth 20000 in
theorem gX3_canServe_J6_bitCount_0f7a4 : GoodIn wsX3_canServe (va_wsS RX3 60 yJ6_bitCount_0f7a4 wsJ6_bitCount_0f7a4) := goodIn_app (goodIn_of _ (by decide +kernel)) ggX3_canServe_J6_bitCount_0f7a4
set_option maxRecDepth 20000 in
theorem ggX3_choose_X3_firstJar : GoodIn wsX3_choose wsX3_firstJar := goodIn_r _ [37, 2, 3, 26, 15, 16, 17, 18, 19, 20, 21, 6, 7, 8, 9, 10, 4, 11, 12, 13, 14, 22, 23, 24, 25, 27, 28, 29, 30, 31, 32, 33, 38, 39, 40, 41, 42, 43, 44, 45, 46, 47, 48, 49, 50, 51, 52, 53, 54] (by decide +kernel) (by decide +kernel)
set_option maxRecDepth 20000 in
theorem gX3_choose_X3_firstJar : GoodIn wsX3_choose (wsV RX3 45 RX3 yX3_firstJar wsX3_firstJar) := goodIn_app (goodIn_of _ (by decide +kernel)) ggX3_choose_X3_firstJar
set_option maxRecDepth 20000 in
theorem ggX3_choose_X3_greatest : GoodIn wsX3_choose wsX3_greatest := goodIn_r _ [10, 2, 3, 4, 11, 12, 13, 9, 14, 15, 16, 17, 18, 19, 20, 21, 22, 23, 24, 25, 26, 27, 28, 29, 30, 31, 32, 33, 38, 39, 40, 41, 42, 43, 44, 45, 46, 47, 48, 49, 50, 51, 52, 53, 54] (by decide +kernel) (by decide +kernel)
set_option maxRecDepth 20000 in
theorem gX3_choose_X3_greatest : GoodIn wsX3_choose (wsV RX3 34 RX3 yX3_greatest wsX3_greatest) := goodIn_app (goodIn_of _ (by decide +kernel)) ggX3_choose_X3_greatest
set_option maxRecDepth 20000 in
theorem ggX3_choose_X6_get : GoodIn wsX3_choose wsX6_get := goodIn_r _ [19, 20, 21, 52, 53, 54] (by decide +kernel) (by decide +kernel)
set_option maxRecDepth 20000 in
theorem gX3_choose_X6_get : GoodIn wsX3_choose (wsV RX3 49 RX6 yX6_get wsX6_get) := goodIn_app (goodIn_of _ (by decide +kernel)) ggX3_choose_X6_get
set_option maxRecDepth 20000 in
theorem ggX3_firstJar_X3_greatest : GoodIn wsX3_firstJar wsX3_greatest := goodIn_r _ [15, 1, 2, 16, 17, 18, 19, 14, 20, 4, 5, 6, 7, 8, 9, 10, 21, 22, 23, 24, 3, 25, 26, 27, 28, 29, 30, 31, 32, 33, 34, 35, 36, 37, 38, 39, 40, 41, 42, 43, 44, 45, 46, 47, 48] (by decide +kernel) (by decide +kernel)
set_option maxRecDepth 20000 in
theorem gX3_firstJar_X3_greatest : GoodIn wsX3_firstJar (wsV RX3 34 RX3 yX3_greatest wsX3_greatest) := goodIn_app (goodIn_of _ (by decide +kernel)) ggX3_firstJar_X3_greatest
set_option maxRecDepth 20000 in
theorem ggX3_firstJar_X6_get : GoodIn wsX3_firstJar wsX6_get := goodIn_r _ [8, 9, 10, 46, 47, 48] (by decide +kernel) (by decide +kernel)
set_option maxRecDepth 20000 in
theorem gX3_firstJar_X6_get : GoodIn wsX3_firstJar (wsV RX3 49 RX6 yX6_get wsX6_get) := goodIn_app (goodIn_of _ (by decide +kernel)) ggX3_firstJar_X6_get
set_option maxRecDepth 20000 in
theorem ggX3_greatest_X3_canServe : GoodIn wsX3_greatest wsX3_canServe := goodIn_r _ [19, 20, 21, 22, 23, 24, 25, 26, 27, 28, 29, 30, 31] (by decide +kernel) (by decide +kernel)
set_option maxRecDepth 20000 in
theorem gX3_greatest_X3_canServe : GoodIn wsX3_greatest (wsV RX3 56 RX3 yX3_canServe wsX3_canServe) := goodIn_app (goodIn_of _ (by decide +kernel)) ggX3_greatest_X3_canServe
set_option maxRecDepth 20000 in
theorem ggX3_greatest_X3_priceOf : GoodIn wsX3_greatest wsX3_priceOf := goodIn_r _ [8, 1, 2, 9, 10, 11, 12, 13, 14, 15, 28, 29, 30, 31, 32, 33, 34, 35, 36, 37, 38, 39, 40, 41, 42, 43, 44] (by decide +kernel) (by decide +kernel)
set_option maxRecDepth 20000 in
theorem gX3_greatest_X3_priceOf : GoodIn wsX3_greatest (wsV RX3 52 RX3 yX3_priceOf wsX3_priceOf) := goodIn_app (goodIn_of _ (by decide +kernel)) ggX3_greatest_X3_priceOf
set_option maxRecDepth 20000 in
theorem ggX3_jarFor_X6_has : GoodIn wsX3_jarFor wsX6_has := goodIn_r _ [8, 9, 24, 25, 26] (by decide +kernel) (by decide +kernel)
set_option maxRecDepth 20000 in
theorem gX3_jarFor_X6_has : GoodIn wsX3_jarFor (wsV RX3 28 RX6 yX6_has wsX6_has) := goodIn_app (goodIn_of _ (by decide +kernel)) ggX3_jarFor_X6_has
set_option maxRecDepth 20000 in
theorem ggX3_priceOf_X6_get : GoodIn wsX3_priceOf wsX6_get := goodIn_r _ [7, 8, 9, 24, 25, 26] (by decide +kernel) (by decide +kernel)
set_option maxRecDepth 20000 in
theorem gX3_priceOf_X6_get : GoodIn wsX3_priceOf (wsV RX3 49 RX6 yX6_get wsX6_get) := goodIn_app (goodIn_of _ (by decide +kernel)) ggX3_priceOf_X6_get

def ixJ6_bitCount_0f7a4 : List Nat := [1260, 1261, 1262, 1263]
def wsJ6_bitCount_0f7a4 : List Cond := .code yJ6_bitCount_0f7a4 cJ6_bitCount_0f7a4 1 (some .int) :: ixJ6_bitCount_0f7a4.map wt
def ixX3_canServe : List Nat := [135, 1256, 1257, 1258, 1259, 1260, 1261, 1262, 1263, 1436, 1437, 1438, 1439]
def wsX3_canServe : List Cond := .code yX3_canServe cX3_canServe 6 (some .boolean) :: ixX3_canServe.map wt
def ixX3_choose : List Nat := [44, 51, 63, 68, 135, 136, 137, 595, 596, 597, 1240, 1241, 1242, 1243, 1244, 1245, 1246, 1247, 1248, 1249, 1250, 1251, 1252, 1253, 1254, 1255, 1256, 1257, 1258, 1259, 1260, 1261, 1262, 1263, 1264, 1265, 1266, 1267, 1436, 1437, 1438, 1439, 1457, 1458, 1459, 1476, 1477, 1478, 1479, 1480, 1481, 1482, 1483, 1484, 1485]
def wsX3_choose : List Cond := .code yX3_choose cX3_choose 5 none :: ixX3_choose.map wt
def ixX3_firstJar : List Nat := [44, 51, 63, 68, 135, 137, 595, 596, 597, 1242, 1243, 1244, 1245, 1246, 1247, 1248, 1249, 1250, 1251, 1252, 1253, 1254, 1255, 1256, 1257, 1258, 1259, 1260, 1261, 1262, 1263, 1267, 1436, 1437, 1438, 1439, 1457, 1458, 1459, 1476, 1477, 1478, 1479, 1480, 1481, 1482, 1483, 1484, 1485]
def wsX3_firstJar : List Cond := .code yX3_firstJar cX3_firstJar 8 (some .int) :: ixX3_firstJar.map wt
def ixX3_greatest : List Nat := [44, 51, 63, 68, 135, 137, 595, 596, 597, 1242, 1243, 1247, 1248, 1249, 1250, 1251, 1252, 1253, 1254, 1255, 1256, 1257, 1258, 1259, 1260, 1261, 1262, 1263, 1436, 1437, 1438, 1439, 1457, 1458, 1459, 1476, 1477, 1478, 1479, 1480, 1481, 1482, 1483, 1484, 1485]
def wsX3_greatest : List Cond := .code yX3_greatest cX3_greatest 7 (some .int) :: ixX3_greatest.map wt
def ixX3_jarFor : List Nat := [51, 136, 137, 179, 200, 201, 202, 1242, 1271, 1272, 1436, 1437, 1438, 1439, 1457, 1458, 1459, 1476, 1477, 1478, 1479, 1480, 1481, 1482, 1483, 1484, 1485]
def wsX3_jarFor : List Cond := .code yX3_jarFor cX3_jarFor 2 (some .int) :: ixX3_jarFor.map wt
def ixX3_offer : List Nat := [135, 1236, 1436, 1437, 1438, 1439]
def wsX3_offer : List Cond := .code yX3_offer cX3_offer 3 none :: ixX3_offer.map wt
def ixX3_open : List Nat := [135, 1232, 1436, 1437, 1438, 1439]
def wsX3_open : List Cond := .code yX3_open cX3_open 2 none :: ixX3_open.map wt
def ixX3_priceOf : List Nat := [51, 63, 68, 137, 595, 596, 597, 1242, 1251, 1252, 1436, 1437, 1438, 1439, 1457, 1458, 1459, 1476, 1477, 1478, 1479, 1480, 1481, 1482, 1483, 1484, 1485]
def wsX3_priceOf : List Cond := .code yX3_priceOf cX3_priceOf 4 (some .int) :: ixX3_priceOf.map wt
theorem ggX3_canServe_J6_bitCount_0f7a4 : GoodIn wsX3_canServe wsJ6_bitCount_0f7a4 := gi_ (A := ixX3_canServe) (B := ixJ6_bitCount_0f7a4) wt1260 (by decide +kernel)
theorem gX3_canServe_J6_bitCount_0f7a4 : GoodIn wsX3_canServe (va_wsS RX3 60 yJ6_bitCount_0f7a4 wsJ6_bitCount_0f7a4) := g3_ (A := ixX3_canServe) wt1257 wt1258 wt1259 (by decide +kernel) ggX3_canServe_J6_bitCount_0f7a4
theorem ggX3_choose_X3_firstJar : GoodIn wsX3_choose wsX3_firstJar := gi_ (A := ixX3_choose) (B := ixX3_firstJar) wt1267 (by decide +kernel)
theorem gX3_choose_X3_firstJar : GoodIn wsX3_choose (wsV RX3 45 RX3 yX3_firstJar wsX3_firstJar) := g4_ (A := ixX3_choose) wt1264 wt1265 wt1266 wt44 (by decide +kernel) ggX3_choose_X3_firstJar
theorem ggX3_choose_X3_greatest : GoodIn wsX3_choose wsX3_greatest := gi_ (A := ixX3_choose) (B := ixX3_greatest) wt1247 (by decide +kernel)
theorem gX3_choose_X3_greatest : GoodIn wsX3_choose (wsV RX3 34 RX3 yX3_greatest wsX3_greatest) := g4_ (A := ixX3_choose) wt1244 wt1245 wt1246 wt44 (by decide +kernel) ggX3_choose_X3_greatest
theorem ggX3_choose_X6_get : GoodIn wsX3_choose wsX6_get := gi_ (A := ixX3_choose) (B := ixX6_get) wt597 (by decide +kernel)
theorem gX3_choose_X6_get : GoodIn wsX3_choose (wsV RX3 49 RX6 yX6_get wsX6_get) := g4_ (A := ixX3_choose) wt1252 wt595 wt596 wt51 (by decide +kernel) ggX3_choose_X6_get
theorem ggX3_firstJar_X3_greatest : GoodIn wsX3_firstJar wsX3_greatest := gi_ (A := ixX3_firstJar) (B := ixX3_greatest) wt1247 (by decide +kernel)
theorem gX3_firstJar_X3_greatest : GoodIn wsX3_firstJar (wsV RX3 34 RX3 yX3_greatest wsX3_greatest) := g4_ (A := ixX3_firstJar) wt1244 wt1245 wt1246 wt44 (by decide +kernel) ggX3_firstJar_X3_greatest
theorem ggX3_firstJar_X6_get : GoodIn wsX3_firstJar wsX6_get := gi_ (A := ixX3_firstJar) (B := ixX6_get) wt597 (by decide +kernel)
theorem gX3_firstJar_X6_get : GoodIn wsX3_firstJar (wsV RX3 49 RX6 yX6_get wsX6_get) := g4_ (A := ixX3_firstJar) wt1252 wt595 wt596 wt51 (by decide +kernel) ggX3_firstJar_X6_get
theorem ggX3_greatest_X3_canServe : GoodIn wsX3_greatest wsX3_canServe := gi_ (A := ixX3_greatest) (B := ixX3_canServe) wt1256 (by decide +kernel)
theorem gX3_greatest_X3_canServe : GoodIn wsX3_greatest (wsV RX3 56 RX3 yX3_canServe wsX3_canServe) := g4_ (A := ixX3_greatest) wt1253 wt1254 wt1255 wt44 (by decide +kernel) ggX3_greatest_X3_canServe
theorem ggX3_greatest_X3_priceOf : GoodIn wsX3_greatest wsX3_priceOf := gi_ (A := ixX3_greatest) (B := ixX3_priceOf) wt1251 (by decide +kernel)
theorem gX3_greatest_X3_priceOf : GoodIn wsX3_greatest (wsV RX3 52 RX3 yX3_priceOf wsX3_priceOf) := g4_ (A := ixX3_greatest) wt1248 wt1249 wt1250 wt44 (by decide +kernel) ggX3_greatest_X3_priceOf
theorem ggX3_jarFor_X6_has : GoodIn wsX3_jarFor wsX6_has := gi_ (A := ixX3_jarFor) (B := ixX6_has) wt202 (by decide +kernel)
theorem gX3_jarFor_X6_has : GoodIn wsX3_jarFor (wsV RX3 28 RX6 yX6_has wsX6_has) := g4_ (A := ixX3_jarFor) wt1272 wt200 wt201 wt51 (by decide +kernel) ggX3_jarFor_X6_has
theorem ggX3_priceOf_X6_get : GoodIn wsX3_priceOf wsX6_get := gi_ (A := ixX3_priceOf) (B := ixX6_get) wt597 (by decide +kernel)
theorem gX3_priceOf_X6_get : GoodIn wsX3_priceOf (wsV RX3 49 RX6 yX6_get wsX6_get) := g4_ (A := ixX3_priceOf) wt1252 wt595 wt596 wt51 (by decide +kernel) ggX3_priceOf_X6_get
theorem kX3_open_1 {a : Array Value} {s : State} (hts : ∀ w ∈ wsX3_open, w.before a s = true) : (.fieldLink RX3 9 "SnowMules$Market" "offers" "[I" : Cond).before a s = true := kw (A := ixX3_open) wt135 hts (by decide +kernel)
theorem kX3_offer_1 {a : Array Value} {s : State} (hts : ∀ w ∈ wsX3_offer, w.before a s = true) : (.fieldLink RX3 9 "SnowMules$Market" "offers" "[I" : Cond).before a s = true := kw (A := ixX3_offer) wt135 hts (by decide +kernel)
theorem kX3_jarFor_1 {a : Array Value} {s : State} (hts : ∀ w ∈ wsX3_jarFor, w.before a s = true) : (.fieldLink RX3 18 "SnowMules$Market" "world" "LSnowMules$World;" : Cond).before a s = true := kw (A := ixX3_jarFor) wt137 hts (by decide +kernel)
theorem kX3_jarFor_2 {a : Array Value} {s : State} (hts : ∀ w ∈ wsX3_jarFor, w.before a s = true) : (.fieldLink RX3 22 "SnowMules$World" "orders" "LSnowMules$Table;" : Cond).before a s = true := kw (A := ixX3_jarFor) wt1242 hts (by decide +kernel)
theorem kX3_jarFor_3 {a : Array Value} {s : State} (hts : ∀ w ∈ wsX3_jarFor, w.before a s = true) : (.fieldLink RX3 15 "SnowMules$Market" "chosen" "[I" : Cond).before a s = true := kw (A := ixX3_jarFor) wt136 hts (by decide +kernel)
theorem kX3_priceOf_1 {a : Array Value} {s : State} (hts : ∀ w ∈ wsX3_priceOf, w.before a s = true) : (.fieldLink RX3 18 "SnowMules$Market" "world" "LSnowMules$World;" : Cond).before a s = true := kw (A := ixX3_priceOf) wt137 hts (by decide +kernel)
theorem kX3_priceOf_2 {a : Array Value} {s : State} (hts : ∀ w ∈ wsX3_priceOf, w.before a s = true) : (.fieldLink RX3 22 "SnowMules$World" "orders" "LSnowMules$Table;" : Cond).before a s = true := kw (A := ixX3_priceOf) wt1242 hts (by decide +kernel)
theorem kJ6_bitCount_0f7a4_1 {a : Array Value} {s : State} (hts : ∀ w ∈ wsJ6_bitCount_0f7a4, w.before a s = true) : (.constant RJ6 265 (1431655765) : Cond).before a s = true := kw (A := ixJ6_bitCount_0f7a4) wt1261 hts (by decide +kernel)
theorem kJ6_bitCount_0f7a4_2 {a : Array Value} {s : State} (hts : ∀ w ∈ wsJ6_bitCount_0f7a4, w.before a s = true) : (.constant RJ6 266 (858993459) : Cond).before a s = true := kw (A := ixJ6_bitCount_0f7a4) wt1262 hts (by decide +kernel)
theorem kJ6_bitCount_0f7a4_3 {a : Array Value} {s : State} (hts : ∀ w ∈ wsJ6_bitCount_0f7a4, w.before a s = true) : (.constant RJ6 267 (252645135) : Cond).before a s = true := kw (A := ixJ6_bitCount_0f7a4) wt1263 hts (by decide +kernel)
theorem kX3_canServe_1 {a : Array Value} {s : State} (hts : ∀ w ∈ wsX3_canServe, w.before a s = true) : (.fieldLink RX3 9 "SnowMules$Market" "offers" "[I" : Cond).before a s = true := kw (A := ixX3_canServe) wt135 hts (by decide +kernel)
theorem kX3_greatest_1 {a : Array Value} {s : State} (hts : ∀ w ∈ wsX3_greatest, w.before a s = true) : (.fieldLink RX3 18 "SnowMules$Market" "world" "LSnowMules$World;" : Cond).before a s = true := kw (A := ixX3_greatest) wt137 hts (by decide +kernel)
theorem kX3_greatest_2 {a : Array Value} {s : State} (hts : ∀ w ∈ wsX3_greatest, w.before a s = true) : (.fieldLink RX3 22 "SnowMules$World" "orders" "LSnowMules$Table;" : Cond).before a s = true := kw (A := ixX3_greatest) wt1242 hts (by decide +kernel)
theorem kX3_greatest_3 {a : Array Value} {s : State} (hts : ∀ w ∈ wsX3_greatest, w.before a s = true) : (.fieldLink RX3 42 "SnowMules$Table" "size" "I" : Cond).before a s = true := kw (A := ixX3_greatest) wt1243 hts (by decide +kernel)
theorem kX3_firstJar_1 {a : Array Value} {s : State} (hts : ∀ w ∈ wsX3_firstJar, w.before a s = true) : (.fieldLink RX3 18 "SnowMules$Market" "world" "LSnowMules$World;" : Cond).before a s = true := kw (A := ixX3_firstJar) wt137 hts (by decide +kernel)
theorem kX3_firstJar_2 {a : Array Value} {s : State} (hts : ∀ w ∈ wsX3_firstJar, w.before a s = true) : (.fieldLink RX3 22 "SnowMules$World" "orders" "LSnowMules$Table;" : Cond).before a s = true := kw (A := ixX3_firstJar) wt1242 hts (by decide +kernel)
theorem kX3_firstJar_3 {a : Array Value} {s : State} (hts : ∀ w ∈ wsX3_firstJar, w.before a s = true) : (.fieldLink RX3 9 "SnowMules$Market" "offers" "[I" : Cond).before a s = true := kw (A := ixX3_firstJar) wt135 hts (by decide +kernel)
theorem kX3_choose_1 {a : Array Value} {s : State} (hts : ∀ w ∈ wsX3_choose, w.before a s = true) : (.fieldLink RX3 38 "SnowMules$Market" "paid" "I" : Cond).before a s = true := kw (A := ixX3_choose) wt1241 hts (by decide +kernel)
theorem kX3_choose_2 {a : Array Value} {s : State} (hts : ∀ w ∈ wsX3_choose, w.before a s = true) : (.fieldLink RX3 18 "SnowMules$Market" "world" "LSnowMules$World;" : Cond).before a s = true := kw (A := ixX3_choose) wt137 hts (by decide +kernel)
theorem kX3_choose_3 {a : Array Value} {s : State} (hts : ∀ w ∈ wsX3_choose, w.before a s = true) : (.fieldLink RX3 22 "SnowMules$World" "orders" "LSnowMules$Table;" : Cond).before a s = true := kw (A := ixX3_choose) wt1242 hts (by decide +kernel)
theorem kX3_choose_4 {a : Array Value} {s : State} (hts : ∀ w ∈ wsX3_choose, w.before a s = true) : (.fieldLink RX3 42 "SnowMules$Table" "size" "I" : Cond).before a s = true := kw (A := ixX3_choose) wt1243 hts (by decide +kernel)
theorem kX3_choose_5 {a : Array Value} {s : State} (hts : ∀ w ∈ wsX3_choose, w.before a s = true) : (.fieldLink RX3 15 "SnowMules$Market" "chosen" "[I" : Cond).before a s = true := kw (A := ixX3_choose) wt136 hts (by decide +kernel)
theorem iX3_open_X3 : ∀ w ∈ wsX30, w ∈ wsX3_open := inW (A := ixX3_open) uwX3 (by decide +kernel)
theorem iX3_offer_X3 : ∀ w ∈ wsX30, w ∈ wsX3_offer := inW (A := ixX3_offer) uwX3 (by decide +kernel)
theorem iX3_jarFor_X3 : ∀ w ∈ wsX30, w ∈ wsX3_jarFor := inW (A := ixX3_jarFor) uwX3 (by decide +kernel)
theorem iX3_jarFor_X9 : ∀ w ∈ wsX90, w ∈ wsX3_jarFor := inW (A := ixX3_jarFor) uwX9 (by decide +kernel)
theorem iX3_priceOf_X3 : ∀ w ∈ wsX30, w ∈ wsX3_priceOf := inW (A := ixX3_priceOf) uwX3 (by decide +kernel)
theorem iX3_priceOf_X9 : ∀ w ∈ wsX90, w ∈ wsX3_priceOf := inW (A := ixX3_priceOf) uwX9 (by decide +kernel)
theorem iX3_canServe_X3 : ∀ w ∈ wsX30, w ∈ wsX3_canServe := inW (A := ixX3_canServe) uwX3 (by decide +kernel)
theorem iX3_greatest_X3 : ∀ w ∈ wsX30, w ∈ wsX3_greatest := inW (A := ixX3_greatest) uwX3 (by decide +kernel)
theorem iX3_greatest_X9 : ∀ w ∈ wsX90, w ∈ wsX3_greatest := inW (A := ixX3_greatest) uwX9 (by decide +kernel)
theorem iX3_greatest_X6 : ∀ w ∈ wsX60, w ∈ wsX3_greatest := inW (A := ixX3_greatest) uwX6 (by decide +kernel)
theorem iX3_firstJar_X3 : ∀ w ∈ wsX30, w ∈ wsX3_firstJar := inW (A := ixX3_firstJar) uwX3 (by decide +kernel)
theorem iX3_firstJar_X9 : ∀ w ∈ wsX90, w ∈ wsX3_firstJar := inW (A := ixX3_firstJar) uwX9 (by decide +kernel)
theorem iX3_choose_X3 : ∀ w ∈ wsX30, w ∈ wsX3_choose := inW (A := ixX3_choose) uwX3 (by decide +kernel)
theorem iX3_choose_X9 : ∀ w ∈ wsX90, w ∈ wsX3_choose := inW (A := ixX3_choose) uwX9 (by decide +kernel)
theorem iX3_choose_X6 : ∀ w ∈ wsX60, w ∈ wsX3_choose := inW (A := ixX3_choose) uwX6 (by decide +kernel)
theorem hdJ6_bitCount_0f7a4 : yJ6_bitCount_0f7a4.cls ≠ "java/lang/invoke/MethodHandle" ∧ yJ6_bitCount_0f7a4.cls ≠ "java/lang/invoke/VarHandle" ∧ (parseMethodDescriptor yJ6_bitCount_0f7a4.desc).map (fun d => d.parameters.length) = some 1 := ⟨hdc_9.1, hdc_9.2, hdd_3⟩
theorem hdX3_priceOf : yX3_priceOf.cls ≠ "java/lang/invoke/MethodHandle" ∧ yX3_priceOf.cls ≠ "java/lang/invoke/VarHandle" ∧ (parseMethodDescriptor yX3_priceOf.desc).map (fun d => d.parameters.length) = some 1 := ⟨hdc_10.1, hdc_10.2, hdd_3⟩
theorem hdX3_canServe : yX3_canServe.cls ≠ "java/lang/invoke/MethodHandle" ∧ yX3_canServe.cls ≠ "java/lang/invoke/VarHandle" ∧ (parseMethodDescriptor yX3_canServe.desc).map (fun d => d.parameters.length) = some 2 := ⟨hdc_10.1, hdc_10.2, hdd_4⟩
theorem hdX3_greatest : yX3_greatest.cls ≠ "java/lang/invoke/MethodHandle" ∧ yX3_greatest.cls ≠ "java/lang/invoke/VarHandle" ∧ (parseMethodDescriptor yX3_greatest.desc).map (fun d => d.parameters.length) = some 2 := ⟨hdc_10.1, hdc_10.2, hdd_0⟩
theorem hdX3_firstJar : yX3_firstJar.cls ≠ "java/lang/invoke/MethodHandle" ∧ yX3_firstJar.cls ≠ "java/lang/invoke/VarHandle" ∧ (parseMethodDescriptor yX3_firstJar.desc).map (fun d => d.parameters.length) = some 3 := ⟨hdc_10.1, hdc_10.2, hdd_15⟩
def dtX3_open_37_0 : List (Nat × Jvm.ClassFile.Instr × Nat) := [(0, .iconst 0, 1), (1, .istore_n 1, 1), (2, .iload_n 1, 1), (3, .bipush 6, 2), (5, .if_icmp .ge 16, 3), (8, .aload_n 0, 1), (9, .getfield 9, 3), (12, .iload_n 1, 1), (13, .iconst 0, 1), (14, .iastore, 1), (15, .iinc 1 1, 3), (18, .goto (-16), 3), (21, .return_, 1)]
theorem daX3_open_37_0 : dtX3_open_37_0.all (dqd cX3_open) = true := by decide +kernel
theorem dX3_open_0 : decode cX3_open 0 = .ok (.iconst 0, 1) := dq daX3_open_37_0 0 rfl
theorem dX3_open_1 : decode cX3_open 1 = .ok (.istore_n 1, 1) := dq daX3_open_37_0 1 rfl
theorem dX3_open_2 : decode cX3_open 2 = .ok (.iload_n 1, 1) := dq daX3_open_37_0 2 rfl
theorem dX3_open_3 : decode cX3_open 3 = .ok (.bipush 6, 2) := dq daX3_open_37_0 3 rfl
theorem dX3_open_5 : decode cX3_open 5 = .ok (.if_icmp .ge 16, 3) := dq daX3_open_37_0 4 rfl
theorem dX3_open_8 : decode cX3_open 8 = .ok (.aload_n 0, 1) := dq daX3_open_37_0 5 rfl
theorem dX3_open_9 : decode cX3_open 9 = .ok (.getfield 9, 3) := dq daX3_open_37_0 6 rfl
theorem dX3_open_12 : decode cX3_open 12 = .ok (.iload_n 1, 1) := dq daX3_open_37_0 7 rfl
theorem dX3_open_13 : decode cX3_open 13 = .ok (.iconst 0, 1) := dq daX3_open_37_0 8 rfl
theorem dX3_open_14 : decode cX3_open 14 = .ok (.iastore, 1) := dq daX3_open_37_0 9 rfl
theorem dX3_open_15 : decode cX3_open 15 = .ok (.iinc 1 1, 3) := dq daX3_open_37_0 10 rfl
theorem dX3_open_18 : decode cX3_open 18 = .ok (.goto (-16), 3) := dq daX3_open_37_0 11 rfl
theorem dX3_open_21 : decode cX3_open 21 = .ok (.return_, 1) := dq daX3_open_37_0 12 rfl
def dtX3_offer_37_0 : List (Nat × Jvm.ClassFile.Instr × Nat) := [(0, .iload_n 2, 1), (1, .ifCond .lt 21, 3), (22, .return_, 1), (4, .iload_n 2, 1), (5, .bipush 6, 2), (7, .if_icmp .ge 15, 3), (10, .aload_n 0, 1), (11, .getfield 9, 3), (14, .iload_n 2, 1), (15, .dup2, 1), (16, .iaload, 1), (17, .iconst 1, 1), (18, .iload_n 1, 1), (19, .ishl, 1), (20, .ior, 1), (21, .iastore, 1)]
theorem daX3_offer_37_0 : dtX3_offer_37_0.all (dqd cX3_offer) = true := by decide +kernel
theorem dX3_offer_0 : decode cX3_offer 0 = .ok (.iload_n 2, 1) := dq daX3_offer_37_0 0 rfl
theorem dX3_offer_1 : decode cX3_offer 1 = .ok (.ifCond .lt 21, 3) := dq daX3_offer_37_0 1 rfl
theorem dX3_offer_22 : decode cX3_offer 22 = .ok (.return_, 1) := dq daX3_offer_37_0 2 rfl
theorem dX3_offer_4 : decode cX3_offer 4 = .ok (.iload_n 2, 1) := dq daX3_offer_37_0 3 rfl
theorem dX3_offer_5 : decode cX3_offer 5 = .ok (.bipush 6, 2) := dq daX3_offer_37_0 4 rfl
theorem dX3_offer_7 : decode cX3_offer 7 = .ok (.if_icmp .ge 15, 3) := dq daX3_offer_37_0 5 rfl
theorem dX3_offer_10 : decode cX3_offer 10 = .ok (.aload_n 0, 1) := dq daX3_offer_37_0 6 rfl
theorem dX3_offer_11 : decode cX3_offer 11 = .ok (.getfield 9, 3) := dq daX3_offer_37_0 7 rfl
theorem dX3_offer_14 : decode cX3_offer 14 = .ok (.iload_n 2, 1) := dq daX3_offer_37_0 8 rfl
theorem dX3_offer_15 : decode cX3_offer 15 = .ok (.dup2, 1) := dq daX3_offer_37_0 9 rfl
theorem dX3_offer_16 : decode cX3_offer 16 = .ok (.iaload, 1) := dq daX3_offer_37_0 10 rfl
theorem dX3_offer_17 : decode cX3_offer 17 = .ok (.iconst 1, 1) := dq daX3_offer_37_0 11 rfl
theorem dX3_offer_18 : decode cX3_offer 18 = .ok (.iload_n 1, 1) := dq daX3_offer_37_0 12 rfl
theorem dX3_offer_19 : decode cX3_offer 19 = .ok (.ishl, 1) := dq daX3_offer_37_0 13 rfl
theorem dX3_offer_20 : decode cX3_offer 20 = .ok (.ior, 1) := dq daX3_offer_37_0 14 rfl
theorem dX3_offer_21 : decode cX3_offer 21 = .ok (.iastore, 1) := dq daX3_offer_37_0 15 rfl
def dtX3_jarFor_37_0 : List (Nat × Jvm.ClassFile.Instr × Nat) := [(0, .aload_n 0, 1), (1, .getfield 18, 3), (4, .getfield 22, 3), (7, .iload_n 1, 1), (8, .invokevirtual 28, 3), (11, .ifCond .eq 18, 3), (29, .bipush (-2), 2), (31, .ireturn, 1), (14, .iload_n 1, 1), (15, .bipush 6, 2), (17, .if_icmp .ge 12, 3), (20, .aload_n 0, 1), (21, .getfield 15, 3), (24, .iload_n 1, 1), (25, .iaload, 1), (26, .goto 5, 3)]
theorem daX3_jarFor_37_0 : dtX3_jarFor_37_0.all (dqd cX3_jarFor) = true := by decide +kernel
theorem dX3_jarFor_0 : decode cX3_jarFor 0 = .ok (.aload_n 0, 1) := dq daX3_jarFor_37_0 0 rfl
theorem dX3_jarFor_1 : decode cX3_jarFor 1 = .ok (.getfield 18, 3) := dq daX3_jarFor_37_0 1 rfl
theorem dX3_jarFor_4 : decode cX3_jarFor 4 = .ok (.getfield 22, 3) := dq daX3_jarFor_37_0 2 rfl
theorem dX3_jarFor_7 : decode cX3_jarFor 7 = .ok (.iload_n 1, 1) := dq daX3_jarFor_37_0 3 rfl
theorem dX3_jarFor_8 : decode cX3_jarFor 8 = .ok (.invokevirtual 28, 3) := dq daX3_jarFor_37_0 4 rfl
theorem dX3_jarFor_11 : decode cX3_jarFor 11 = .ok (.ifCond .eq 18, 3) := dq daX3_jarFor_37_0 5 rfl
theorem dX3_jarFor_29 : decode cX3_jarFor 29 = .ok (.bipush (-2), 2) := dq daX3_jarFor_37_0 6 rfl
theorem dX3_jarFor_31 : decode cX3_jarFor 31 = .ok (.ireturn, 1) := dq daX3_jarFor_37_0 7 rfl
theorem dX3_jarFor_14 : decode cX3_jarFor 14 = .ok (.iload_n 1, 1) := dq daX3_jarFor_37_0 8 rfl
theorem dX3_jarFor_15 : decode cX3_jarFor 15 = .ok (.bipush 6, 2) := dq daX3_jarFor_37_0 9 rfl
theorem dX3_jarFor_17 : decode cX3_jarFor 17 = .ok (.if_icmp .ge 12, 3) := dq daX3_jarFor_37_0 10 rfl
theorem dX3_jarFor_20 : decode cX3_jarFor 20 = .ok (.aload_n 0, 1) := dq daX3_jarFor_37_0 11 rfl
theorem dX3_jarFor_21 : decode cX3_jarFor 21 = .ok (.getfield 15, 3) := dq daX3_jarFor_37_0 12 rfl
theorem dX3_jarFor_24 : decode cX3_jarFor 24 = .ok (.iload_n 1, 1) := dq daX3_jarFor_37_0 13 rfl
theorem dX3_jarFor_25 : decode cX3_jarFor 25 = .ok (.iaload, 1) := dq daX3_jarFor_37_0 14 rfl
theorem dX3_jarFor_26 : decode cX3_jarFor 26 = .ok (.goto 5, 3) := dq daX3_jarFor_37_0 15 rfl
def dtX3_priceOf_37_0 : List (Nat × Jvm.ClassFile.Instr × Nat) := [(0, .iconst 0, 1), (1, .istore_n 2, 1), (2, .iconst 0, 1), (3, .istore_n 3, 1), (4, .iload_n 3, 1), (5, .bipush 6, 2), (7, .if_icmp .ge 33, 3), (10, .iload_n 1, 1), (11, .iload_n 3, 1), (12, .ishr, 1), (13, .iconst 1, 1), (14, .iand, 1), (15, .iconst 1, 1), (16, .if_icmp .ne 18, 3), (34, .iinc 3 1, 3), (37, .goto (-33), 3), (19, .iload_n 2, 1), (20, .aload_n 0, 1), (21, .getfield 18, 3), (24, .getfield 22, 3), (27, .iload_n 3, 1), (28, .iconst 3, 1), (29, .invokevirtual 49, 3), (32, .iadd, 1), (33, .istore_n 2, 1), (40, .iload_n 2, 1), (41, .ireturn, 1)]
theorem daX3_priceOf_37_0 : dtX3_priceOf_37_0.all (dqd cX3_priceOf) = true := by decide +kernel
theorem dX3_priceOf_0 : decode cX3_priceOf 0 = .ok (.iconst 0, 1) := dq daX3_priceOf_37_0 0 rfl
theorem dX3_priceOf_1 : decode cX3_priceOf 1 = .ok (.istore_n 2, 1) := dq daX3_priceOf_37_0 1 rfl
theorem dX3_priceOf_2 : decode cX3_priceOf 2 = .ok (.iconst 0, 1) := dq daX3_priceOf_37_0 2 rfl
theorem dX3_priceOf_3 : decode cX3_priceOf 3 = .ok (.istore_n 3, 1) := dq daX3_priceOf_37_0 3 rfl
theorem dX3_priceOf_4 : decode cX3_priceOf 4 = .ok (.iload_n 3, 1) := dq daX3_priceOf_37_0 4 rfl
theorem dX3_priceOf_5 : decode cX3_priceOf 5 = .ok (.bipush 6, 2) := dq daX3_priceOf_37_0 5 rfl
theorem dX3_priceOf_7 : decode cX3_priceOf 7 = .ok (.if_icmp .ge 33, 3) := dq daX3_priceOf_37_0 6 rfl
theorem dX3_priceOf_10 : decode cX3_priceOf 10 = .ok (.iload_n 1, 1) := dq daX3_priceOf_37_0 7 rfl
theorem dX3_priceOf_11 : decode cX3_priceOf 11 = .ok (.iload_n 3, 1) := dq daX3_priceOf_37_0 8 rfl
theorem dX3_priceOf_12 : decode cX3_priceOf 12 = .ok (.ishr, 1) := dq daX3_priceOf_37_0 9 rfl
theorem dX3_priceOf_13 : decode cX3_priceOf 13 = .ok (.iconst 1, 1) := dq daX3_priceOf_37_0 10 rfl
theorem dX3_priceOf_14 : decode cX3_priceOf 14 = .ok (.iand, 1) := dq daX3_priceOf_37_0 11 rfl
theorem dX3_priceOf_15 : decode cX3_priceOf 15 = .ok (.iconst 1, 1) := dq daX3_priceOf_37_0 12 rfl
theorem dX3_priceOf_16 : decode cX3_priceOf 16 = .ok (.if_icmp .ne 18, 3) := dq daX3_priceOf_37_0 13 rfl
theorem dX3_priceOf_34 : decode cX3_priceOf 34 = .ok (.iinc 3 1, 3) := dq daX3_priceOf_37_0 14 rfl
theorem dX3_priceOf_37 : decode cX3_priceOf 37 = .ok (.goto (-33), 3) := dq daX3_priceOf_37_0 15 rfl
theorem dX3_priceOf_19 : decode cX3_priceOf 19 = .ok (.iload_n 2, 1) := dq daX3_priceOf_37_0 16 rfl
theorem dX3_priceOf_20 : decode cX3_priceOf 20 = .ok (.aload_n 0, 1) := dq daX3_priceOf_37_0 17 rfl
theorem dX3_priceOf_21 : decode cX3_priceOf 21 = .ok (.getfield 18, 3) := dq daX3_priceOf_37_0 18 rfl
theorem dX3_priceOf_24 : decode cX3_priceOf 24 = .ok (.getfield 22, 3) := dq daX3_priceOf_37_0 19 rfl
theorem dX3_priceOf_27 : decode cX3_priceOf 27 = .ok (.iload_n 3, 1) := dq daX3_priceOf_37_0 20 rfl
theorem dX3_priceOf_28 : decode cX3_priceOf 28 = .ok (.iconst 3, 1) := dq daX3_priceOf_37_0 21 rfl
theorem dX3_priceOf_29 : decode cX3_priceOf 29 = .ok (.invokevirtual 49, 3) := dq daX3_priceOf_37_0 22 rfl
theorem dX3_priceOf_32 : decode cX3_priceOf 32 = .ok (.iadd, 1) := dq daX3_priceOf_37_0 23 rfl
theorem dX3_priceOf_33 : decode cX3_priceOf 33 = .ok (.istore_n 2, 1) := dq daX3_priceOf_37_0 24 rfl
theorem dX3_priceOf_40 : decode cX3_priceOf 40 = .ok (.iload_n 2, 1) := dq daX3_priceOf_37_0 25 rfl
theorem dX3_priceOf_41 : decode cX3_priceOf 41 = .ok (.ireturn, 1) := dq daX3_priceOf_37_0 26 rfl
def dtJ6_bitCount_0f7a4_37_0 : List (Nat × Jvm.ClassFile.Instr × Nat) := [(0, .iload_n 0, 1), (1, .iload_n 0, 1), (2, .iconst 1, 1), (3, .iushr, 1), (4, .ldc_w 265, 3), (7, .iand, 1), (8, .isub, 1), (9, .istore_n 0, 1), (10, .iload_n 0, 1), (11, .ldc_w 266, 3), (14, .iand, 1), (15, .iload_n 0, 1), (16, .iconst 2, 1), (17, .iushr, 1), (18, .ldc_w 266, 3), (21, .iand, 1), (22, .iadd, 1), (23, .istore_n 0, 1), (24, .iload_n 0, 1), (25, .iload_n 0, 1), (26, .iconst 4, 1), (27, .iushr, 1), (28, .iadd, 1), (29, .ldc_w 267, 3), (32, .iand, 1), (33, .istore_n 0, 1), (34, .iload_n 0, 1), (35, .iload_n 0, 1), (36, .bipush 8, 2), (38, .iushr, 1), (39, .iadd, 1), (40, .istore_n 0, 1)]
theorem daJ6_bitCount_0f7a4_37_0 : dtJ6_bitCount_0f7a4_37_0.all (dqd cJ6_bitCount_0f7a4) = true := by decide +kernel
theorem dJ6_bitCount_0f7a4_0 : decode cJ6_bitCount_0f7a4 0 = .ok (.iload_n 0, 1) := dq daJ6_bitCount_0f7a4_37_0 0 rfl
theorem dJ6_bitCount_0f7a4_1 : decode cJ6_bitCount_0f7a4 1 = .ok (.iload_n 0, 1) := dq daJ6_bitCount_0f7a4_37_0 1 rfl
theorem dJ6_bitCount_0f7a4_2 : decode cJ6_bitCount_0f7a4 2 = .ok (.iconst 1, 1) := dq daJ6_bitCount_0f7a4_37_0 2 rfl
theorem dJ6_bitCount_0f7a4_3 : decode cJ6_bitCount_0f7a4 3 = .ok (.iushr, 1) := dq daJ6_bitCount_0f7a4_37_0 3 rfl
theorem dJ6_bitCount_0f7a4_4 : decode cJ6_bitCount_0f7a4 4 = .ok (.ldc_w 265, 3) := dq daJ6_bitCount_0f7a4_37_0 4 rfl
theorem dJ6_bitCount_0f7a4_7 : decode cJ6_bitCount_0f7a4 7 = .ok (.iand, 1) := dq daJ6_bitCount_0f7a4_37_0 5 rfl
theorem dJ6_bitCount_0f7a4_8 : decode cJ6_bitCount_0f7a4 8 = .ok (.isub, 1) := dq daJ6_bitCount_0f7a4_37_0 6 rfl
theorem dJ6_bitCount_0f7a4_9 : decode cJ6_bitCount_0f7a4 9 = .ok (.istore_n 0, 1) := dq daJ6_bitCount_0f7a4_37_0 7 rfl
theorem dJ6_bitCount_0f7a4_10 : decode cJ6_bitCount_0f7a4 10 = .ok (.iload_n 0, 1) := dq daJ6_bitCount_0f7a4_37_0 8 rfl
theorem dJ6_bitCount_0f7a4_11 : decode cJ6_bitCount_0f7a4 11 = .ok (.ldc_w 266, 3) := dq daJ6_bitCount_0f7a4_37_0 9 rfl
theorem dJ6_bitCount_0f7a4_14 : decode cJ6_bitCount_0f7a4 14 = .ok (.iand, 1) := dq daJ6_bitCount_0f7a4_37_0 10 rfl
theorem dJ6_bitCount_0f7a4_15 : decode cJ6_bitCount_0f7a4 15 = .ok (.iload_n 0, 1) := dq daJ6_bitCount_0f7a4_37_0 11 rfl
theorem dJ6_bitCount_0f7a4_16 : decode cJ6_bitCount_0f7a4 16 = .ok (.iconst 2, 1) := dq daJ6_bitCount_0f7a4_37_0 12 rfl
theorem dJ6_bitCount_0f7a4_17 : decode cJ6_bitCount_0f7a4 17 = .ok (.iushr, 1) := dq daJ6_bitCount_0f7a4_37_0 13 rfl
theorem dJ6_bitCount_0f7a4_18 : decode cJ6_bitCount_0f7a4 18 = .ok (.ldc_w 266, 3) := dq daJ6_bitCount_0f7a4_37_0 14 rfl
theorem dJ6_bitCount_0f7a4_21 : decode cJ6_bitCount_0f7a4 21 = .ok (.iand, 1) := dq daJ6_bitCount_0f7a4_37_0 15 rfl
theorem dJ6_bitCount_0f7a4_22 : decode cJ6_bitCount_0f7a4 22 = .ok (.iadd, 1) := dq daJ6_bitCount_0f7a4_37_0 16 rfl
theorem dJ6_bitCount_0f7a4_23 : decode cJ6_bitCount_0f7a4 23 = .ok (.istore_n 0, 1) := dq daJ6_bitCount_0f7a4_37_0 17 rfl
theorem dJ6_bitCount_0f7a4_24 : decode cJ6_bitCount_0f7a4 24 = .ok (.iload_n 0, 1) := dq daJ6_bitCount_0f7a4_37_0 18 rfl
theorem dJ6_bitCount_0f7a4_25 : decode cJ6_bitCount_0f7a4 25 = .ok (.iload_n 0, 1) := dq daJ6_bitCount_0f7a4_37_0 19 rfl
theorem dJ6_bitCount_0f7a4_26 : decode cJ6_bitCount_0f7a4 26 = .ok (.iconst 4, 1) := dq daJ6_bitCount_0f7a4_37_0 20 rfl
theorem dJ6_bitCount_0f7a4_27 : decode cJ6_bitCount_0f7a4 27 = .ok (.iushr, 1) := dq daJ6_bitCount_0f7a4_37_0 21 rfl
theorem dJ6_bitCount_0f7a4_28 : decode cJ6_bitCount_0f7a4 28 = .ok (.iadd, 1) := dq daJ6_bitCount_0f7a4_37_0 22 rfl
theorem dJ6_bitCount_0f7a4_29 : decode cJ6_bitCount_0f7a4 29 = .ok (.ldc_w 267, 3) := dq daJ6_bitCount_0f7a4_37_0 23 rfl
theorem dJ6_bitCount_0f7a4_32 : decode cJ6_bitCount_0f7a4 32 = .ok (.iand, 1) := dq daJ6_bitCount_0f7a4_37_0 24 rfl
theorem dJ6_bitCount_0f7a4_33 : decode cJ6_bitCount_0f7a4 33 = .ok (.istore_n 0, 1) := dq daJ6_bitCount_0f7a4_37_0 25 rfl
theorem dJ6_bitCount_0f7a4_34 : decode cJ6_bitCount_0f7a4 34 = .ok (.iload_n 0, 1) := dq daJ6_bitCount_0f7a4_37_0 26 rfl
theorem dJ6_bitCount_0f7a4_35 : decode cJ6_bitCount_0f7a4 35 = .ok (.iload_n 0, 1) := dq daJ6_bitCount_0f7a4_37_0 27 rfl
theorem dJ6_bitCount_0f7a4_36 : decode cJ6_bitCount_0f7a4 36 = .ok (.bipush 8, 2) := dq daJ6_bitCount_0f7a4_37_0 28 rfl
theorem dJ6_bitCount_0f7a4_38 : decode cJ6_bitCount_0f7a4 38 = .ok (.iushr, 1) := dq daJ6_bitCount_0f7a4_37_0 29 rfl
theorem dJ6_bitCount_0f7a4_39 : decode cJ6_bitCount_0f7a4 39 = .ok (.iadd, 1) := dq daJ6_bitCount_0f7a4_37_0 30 rfl
theorem dJ6_bitCount_0f7a4_40 : decode cJ6_bitCount_0f7a4 40 = .ok (.istore_n 0, 1) := dq daJ6_bitCount_0f7a4_37_0 31 rfl
def dtJ6_bitCount_0f7a4_37_1 : List (Nat × Jvm.ClassFile.Instr × Nat) := [(41, .iload_n 0, 1), (42, .iload_n 0, 1), (43, .bipush 16, 2), (45, .iushr, 1), (46, .iadd, 1), (47, .istore_n 0, 1), (48, .iload_n 0, 1), (49, .bipush 63, 2), (51, .iand, 1), (52, .ireturn, 1)]
theorem daJ6_bitCount_0f7a4_37_1 : dtJ6_bitCount_0f7a4_37_1.all (dqd cJ6_bitCount_0f7a4) = true := by decide +kernel
theorem dJ6_bitCount_0f7a4_41 : decode cJ6_bitCount_0f7a4 41 = .ok (.iload_n 0, 1) := dq daJ6_bitCount_0f7a4_37_1 0 rfl
theorem dJ6_bitCount_0f7a4_42 : decode cJ6_bitCount_0f7a4 42 = .ok (.iload_n 0, 1) := dq daJ6_bitCount_0f7a4_37_1 1 rfl
theorem dJ6_bitCount_0f7a4_43 : decode cJ6_bitCount_0f7a4 43 = .ok (.bipush 16, 2) := dq daJ6_bitCount_0f7a4_37_1 2 rfl
theorem dJ6_bitCount_0f7a4_45 : decode cJ6_bitCount_0f7a4 45 = .ok (.iushr, 1) := dq daJ6_bitCount_0f7a4_37_1 3 rfl
theorem dJ6_bitCount_0f7a4_46 : decode cJ6_bitCount_0f7a4 46 = .ok (.iadd, 1) := dq daJ6_bitCount_0f7a4_37_1 4 rfl
theorem dJ6_bitCount_0f7a4_47 : decode cJ6_bitCount_0f7a4 47 = .ok (.istore_n 0, 1) := dq daJ6_bitCount_0f7a4_37_1 5 rfl
theorem dJ6_bitCount_0f7a4_48 : decode cJ6_bitCount_0f7a4 48 = .ok (.iload_n 0, 1) := dq daJ6_bitCount_0f7a4_37_1 6 rfl
theorem dJ6_bitCount_0f7a4_49 : decode cJ6_bitCount_0f7a4 49 = .ok (.bipush 63, 2) := dq daJ6_bitCount_0f7a4_37_1 7 rfl
theorem dJ6_bitCount_0f7a4_51 : decode cJ6_bitCount_0f7a4 51 = .ok (.iand, 1) := dq daJ6_bitCount_0f7a4_37_1 8 rfl
theorem dJ6_bitCount_0f7a4_52 : decode cJ6_bitCount_0f7a4 52 = .ok (.ireturn, 1) := dq daJ6_bitCount_0f7a4_37_1 9 rfl
def dtX3_canServe_37_0 : List (Nat × Jvm.ClassFile.Instr × Nat) := [(0, .iload_n 1, 1), (1, .istore_n 3, 1), (2, .iload_n 3, 1), (3, .ifCond .le 71, 3), (6, .iconst 0, 1), (7, .istore 4, 2), (9, .iconst 0, 1), (10, .istore 5, 2), (12, .iload 5, 2), (14, .bipush 6, 2), (16, .if_icmp .ge 31, 3), (19, .iload_n 3, 1), (20, .iload 5, 2), (22, .ishr, 1), (23, .iconst 1, 1), (24, .iand, 1), (25, .iconst 1, 1), (26, .if_icmp .ne 15, 3), (41, .iinc 5 1, 3), (44, .goto (-32), 3), (29, .iload 4, 2), (31, .aload_n 0, 1), (32, .getfield 9, 3), (35, .iload 5, 2), (37, .iaload, 1), (38, .ior, 1), (39, .istore 4, 2), (74, .iconst 1, 1), (75, .ireturn, 1), (47, .iload 4, 2), (49, .iload_n 2, 1), (50, .iconst (-1), 1)]
theorem daX3_canServe_37_0 : dtX3_canServe_37_0.all (dqd cX3_canServe) = true := by decide +kernel
theorem dX3_canServe_0 : decode cX3_canServe 0 = .ok (.iload_n 1, 1) := dq daX3_canServe_37_0 0 rfl
theorem dX3_canServe_1 : decode cX3_canServe 1 = .ok (.istore_n 3, 1) := dq daX3_canServe_37_0 1 rfl
theorem dX3_canServe_2 : decode cX3_canServe 2 = .ok (.iload_n 3, 1) := dq daX3_canServe_37_0 2 rfl
theorem dX3_canServe_3 : decode cX3_canServe 3 = .ok (.ifCond .le 71, 3) := dq daX3_canServe_37_0 3 rfl
theorem dX3_canServe_6 : decode cX3_canServe 6 = .ok (.iconst 0, 1) := dq daX3_canServe_37_0 4 rfl
theorem dX3_canServe_7 : decode cX3_canServe 7 = .ok (.istore 4, 2) := dq daX3_canServe_37_0 5 rfl
theorem dX3_canServe_9 : decode cX3_canServe 9 = .ok (.iconst 0, 1) := dq daX3_canServe_37_0 6 rfl
theorem dX3_canServe_10 : decode cX3_canServe 10 = .ok (.istore 5, 2) := dq daX3_canServe_37_0 7 rfl
theorem dX3_canServe_12 : decode cX3_canServe 12 = .ok (.iload 5, 2) := dq daX3_canServe_37_0 8 rfl
theorem dX3_canServe_14 : decode cX3_canServe 14 = .ok (.bipush 6, 2) := dq daX3_canServe_37_0 9 rfl
theorem dX3_canServe_16 : decode cX3_canServe 16 = .ok (.if_icmp .ge 31, 3) := dq daX3_canServe_37_0 10 rfl
theorem dX3_canServe_19 : decode cX3_canServe 19 = .ok (.iload_n 3, 1) := dq daX3_canServe_37_0 11 rfl
theorem dX3_canServe_20 : decode cX3_canServe 20 = .ok (.iload 5, 2) := dq daX3_canServe_37_0 12 rfl
theorem dX3_canServe_22 : decode cX3_canServe 22 = .ok (.ishr, 1) := dq daX3_canServe_37_0 13 rfl
theorem dX3_canServe_23 : decode cX3_canServe 23 = .ok (.iconst 1, 1) := dq daX3_canServe_37_0 14 rfl
theorem dX3_canServe_24 : decode cX3_canServe 24 = .ok (.iand, 1) := dq daX3_canServe_37_0 15 rfl
theorem dX3_canServe_25 : decode cX3_canServe 25 = .ok (.iconst 1, 1) := dq daX3_canServe_37_0 16 rfl
theorem dX3_canServe_26 : decode cX3_canServe 26 = .ok (.if_icmp .ne 15, 3) := dq daX3_canServe_37_0 17 rfl
theorem dX3_canServe_41 : decode cX3_canServe 41 = .ok (.iinc 5 1, 3) := dq daX3_canServe_37_0 18 rfl
theorem dX3_canServe_44 : decode cX3_canServe 44 = .ok (.goto (-32), 3) := dq daX3_canServe_37_0 19 rfl
theorem dX3_canServe_29 : decode cX3_canServe 29 = .ok (.iload 4, 2) := dq daX3_canServe_37_0 20 rfl
theorem dX3_canServe_31 : decode cX3_canServe 31 = .ok (.aload_n 0, 1) := dq daX3_canServe_37_0 21 rfl
theorem dX3_canServe_32 : decode cX3_canServe 32 = .ok (.getfield 9, 3) := dq daX3_canServe_37_0 22 rfl
theorem dX3_canServe_35 : decode cX3_canServe 35 = .ok (.iload 5, 2) := dq daX3_canServe_37_0 23 rfl
theorem dX3_canServe_37 : decode cX3_canServe 37 = .ok (.iaload, 1) := dq daX3_canServe_37_0 24 rfl
theorem dX3_canServe_38 : decode cX3_canServe 38 = .ok (.ior, 1) := dq daX3_canServe_37_0 25 rfl
theorem dX3_canServe_39 : decode cX3_canServe 39 = .ok (.istore 4, 2) := dq daX3_canServe_37_0 26 rfl
theorem dX3_canServe_74 : decode cX3_canServe 74 = .ok (.iconst 1, 1) := dq daX3_canServe_37_0 27 rfl
theorem dX3_canServe_75 : decode cX3_canServe 75 = .ok (.ireturn, 1) := dq daX3_canServe_37_0 28 rfl
theorem dX3_canServe_47 : decode cX3_canServe 47 = .ok (.iload 4, 2) := dq daX3_canServe_37_0 29 rfl
theorem dX3_canServe_49 : decode cX3_canServe 49 = .ok (.iload_n 2, 1) := dq daX3_canServe_37_0 30 rfl
theorem dX3_canServe_50 : decode cX3_canServe 50 = .ok (.iconst (-1), 1) := dq daX3_canServe_37_0 31 rfl
def dtX3_canServe_37_1 : List (Nat × Jvm.ClassFile.Instr × Nat) := [(51, .ixor, 1), (52, .iand, 1), (53, .invokestatic 60, 3), (56, .iload_n 3, 1), (57, .invokestatic 60, 3), (60, .if_icmp .ge 5, 3), (65, .iload_n 3, 1), (66, .iconst 1, 1), (67, .isub, 1), (68, .iload_n 1, 1), (69, .iand, 1), (70, .istore_n 3, 1), (71, .goto (-69), 3), (63, .iconst 0, 1), (64, .ireturn, 1)]
theorem daX3_canServe_37_1 : dtX3_canServe_37_1.all (dqd cX3_canServe) = true := by decide +kernel
theorem dX3_canServe_51 : decode cX3_canServe 51 = .ok (.ixor, 1) := dq daX3_canServe_37_1 0 rfl
theorem dX3_canServe_52 : decode cX3_canServe 52 = .ok (.iand, 1) := dq daX3_canServe_37_1 1 rfl
theorem dX3_canServe_53 : decode cX3_canServe 53 = .ok (.invokestatic 60, 3) := dq daX3_canServe_37_1 2 rfl
theorem dX3_canServe_56 : decode cX3_canServe 56 = .ok (.iload_n 3, 1) := dq daX3_canServe_37_1 3 rfl
theorem dX3_canServe_57 : decode cX3_canServe 57 = .ok (.invokestatic 60, 3) := dq daX3_canServe_37_1 4 rfl
theorem dX3_canServe_60 : decode cX3_canServe 60 = .ok (.if_icmp .ge 5, 3) := dq daX3_canServe_37_1 5 rfl
theorem dX3_canServe_65 : decode cX3_canServe 65 = .ok (.iload_n 3, 1) := dq daX3_canServe_37_1 6 rfl
theorem dX3_canServe_66 : decode cX3_canServe 66 = .ok (.iconst 1, 1) := dq daX3_canServe_37_1 7 rfl
theorem dX3_canServe_67 : decode cX3_canServe 67 = .ok (.isub, 1) := dq daX3_canServe_37_1 8 rfl
theorem dX3_canServe_68 : decode cX3_canServe 68 = .ok (.iload_n 1, 1) := dq daX3_canServe_37_1 9 rfl
theorem dX3_canServe_69 : decode cX3_canServe 69 = .ok (.iand, 1) := dq daX3_canServe_37_1 10 rfl
theorem dX3_canServe_70 : decode cX3_canServe 70 = .ok (.istore_n 3, 1) := dq daX3_canServe_37_1 11 rfl
theorem dX3_canServe_71 : decode cX3_canServe 71 = .ok (.goto (-69), 3) := dq daX3_canServe_37_1 12 rfl
theorem dX3_canServe_63 : decode cX3_canServe 63 = .ok (.iconst 0, 1) := dq daX3_canServe_37_1 13 rfl
theorem dX3_canServe_64 : decode cX3_canServe 64 = .ok (.ireturn, 1) := dq daX3_canServe_37_1 14 rfl
def dtX3_greatest_37_0 : List (Nat × Jvm.ClassFile.Instr × Nat) := [(0, .iconst 0, 1), (1, .istore_n 3, 1), (2, .iconst 1, 1), (3, .aload_n 0, 1), (4, .getfield 18, 3), (7, .getfield 22, 3), (10, .getfield 42, 3), (13, .ishl, 1), (14, .istore 4, 2), (16, .iconst 0, 1), (17, .istore 5, 2), (19, .iload 5, 2), (21, .iload 4, 2), (23, .if_icmp .ge 41, 3), (26, .aload_n 0, 1), (27, .iload 5, 2), (29, .invokevirtual 52, 3), (32, .istore 6, 2), (34, .iload 6, 2), (36, .iload_n 3, 1), (37, .if_icmp .le 16, 3), (53, .iload 5, 2), (55, .iconst 1, 1), (56, .iload_n 1, 1), (57, .ishl, 1), (58, .iadd, 1), (59, .istore 5, 2), (61, .goto (-42), 3), (40, .aload_n 0, 1), (41, .iload 5, 2), (43, .iload_n 2, 1), (44, .invokevirtual 56, 3)]
theorem daX3_greatest_37_0 : dtX3_greatest_37_0.all (dqd cX3_greatest) = true := by decide +kernel
theorem dX3_greatest_0 : decode cX3_greatest 0 = .ok (.iconst 0, 1) := dq daX3_greatest_37_0 0 rfl
theorem dX3_greatest_1 : decode cX3_greatest 1 = .ok (.istore_n 3, 1) := dq daX3_greatest_37_0 1 rfl
theorem dX3_greatest_2 : decode cX3_greatest 2 = .ok (.iconst 1, 1) := dq daX3_greatest_37_0 2 rfl
theorem dX3_greatest_3 : decode cX3_greatest 3 = .ok (.aload_n 0, 1) := dq daX3_greatest_37_0 3 rfl
theorem dX3_greatest_4 : decode cX3_greatest 4 = .ok (.getfield 18, 3) := dq daX3_greatest_37_0 4 rfl
theorem dX3_greatest_7 : decode cX3_greatest 7 = .ok (.getfield 22, 3) := dq daX3_greatest_37_0 5 rfl
theorem dX3_greatest_10 : decode cX3_greatest 10 = .ok (.getfield 42, 3) := dq daX3_greatest_37_0 6 rfl
theorem dX3_greatest_13 : decode cX3_greatest 13 = .ok (.ishl, 1) := dq daX3_greatest_37_0 7 rfl
theorem dX3_greatest_14 : decode cX3_greatest 14 = .ok (.istore 4, 2) := dq daX3_greatest_37_0 8 rfl
theorem dX3_greatest_16 : decode cX3_greatest 16 = .ok (.iconst 0, 1) := dq daX3_greatest_37_0 9 rfl
theorem dX3_greatest_17 : decode cX3_greatest 17 = .ok (.istore 5, 2) := dq daX3_greatest_37_0 10 rfl
theorem dX3_greatest_19 : decode cX3_greatest 19 = .ok (.iload 5, 2) := dq daX3_greatest_37_0 11 rfl
theorem dX3_greatest_21 : decode cX3_greatest 21 = .ok (.iload 4, 2) := dq daX3_greatest_37_0 12 rfl
theorem dX3_greatest_23 : decode cX3_greatest 23 = .ok (.if_icmp .ge 41, 3) := dq daX3_greatest_37_0 13 rfl
theorem dX3_greatest_26 : decode cX3_greatest 26 = .ok (.aload_n 0, 1) := dq daX3_greatest_37_0 14 rfl
theorem dX3_greatest_27 : decode cX3_greatest 27 = .ok (.iload 5, 2) := dq daX3_greatest_37_0 15 rfl
theorem dX3_greatest_29 : decode cX3_greatest 29 = .ok (.invokevirtual 52, 3) := dq daX3_greatest_37_0 16 rfl
theorem dX3_greatest_32 : decode cX3_greatest 32 = .ok (.istore 6, 2) := dq daX3_greatest_37_0 17 rfl
theorem dX3_greatest_34 : decode cX3_greatest 34 = .ok (.iload 6, 2) := dq daX3_greatest_37_0 18 rfl
theorem dX3_greatest_36 : decode cX3_greatest 36 = .ok (.iload_n 3, 1) := dq daX3_greatest_37_0 19 rfl
theorem dX3_greatest_37 : decode cX3_greatest 37 = .ok (.if_icmp .le 16, 3) := dq daX3_greatest_37_0 20 rfl
theorem dX3_greatest_53 : decode cX3_greatest 53 = .ok (.iload 5, 2) := dq daX3_greatest_37_0 21 rfl
theorem dX3_greatest_55 : decode cX3_greatest 55 = .ok (.iconst 1, 1) := dq daX3_greatest_37_0 22 rfl
theorem dX3_greatest_56 : decode cX3_greatest 56 = .ok (.iload_n 1, 1) := dq daX3_greatest_37_0 23 rfl
theorem dX3_greatest_57 : decode cX3_greatest 57 = .ok (.ishl, 1) := dq daX3_greatest_37_0 24 rfl
theorem dX3_greatest_58 : decode cX3_greatest 58 = .ok (.iadd, 1) := dq daX3_greatest_37_0 25 rfl
theorem dX3_greatest_59 : decode cX3_greatest 59 = .ok (.istore 5, 2) := dq daX3_greatest_37_0 26 rfl
theorem dX3_greatest_61 : decode cX3_greatest 61 = .ok (.goto (-42), 3) := dq daX3_greatest_37_0 27 rfl
theorem dX3_greatest_40 : decode cX3_greatest 40 = .ok (.aload_n 0, 1) := dq daX3_greatest_37_0 28 rfl
theorem dX3_greatest_41 : decode cX3_greatest 41 = .ok (.iload 5, 2) := dq daX3_greatest_37_0 29 rfl
theorem dX3_greatest_43 : decode cX3_greatest 43 = .ok (.iload_n 2, 1) := dq daX3_greatest_37_0 30 rfl
theorem dX3_greatest_44 : decode cX3_greatest 44 = .ok (.invokevirtual 56, 3) := dq daX3_greatest_37_0 31 rfl
def dtX3_greatest_37_1 : List (Nat × Jvm.ClassFile.Instr × Nat) := [(47, .ifCond .eq 6, 3), (50, .iload 6, 2), (52, .istore_n 3, 1), (64, .iload_n 3, 1), (65, .ireturn, 1)]
theorem daX3_greatest_37_1 : dtX3_greatest_37_1.all (dqd cX3_greatest) = true := by decide +kernel
theorem dX3_greatest_47 : decode cX3_greatest 47 = .ok (.ifCond .eq 6, 3) := dq daX3_greatest_37_1 0 rfl
theorem dX3_greatest_50 : decode cX3_greatest 50 = .ok (.iload 6, 2) := dq daX3_greatest_37_1 1 rfl
theorem dX3_greatest_52 : decode cX3_greatest 52 = .ok (.istore_n 3, 1) := dq daX3_greatest_37_1 2 rfl
theorem dX3_greatest_64 : decode cX3_greatest 64 = .ok (.iload_n 3, 1) := dq daX3_greatest_37_1 3 rfl
theorem dX3_greatest_65 : decode cX3_greatest 65 = .ok (.ireturn, 1) := dq daX3_greatest_37_1 4 rfl
def dtX3_firstJar_37_0 : List (Nat × Jvm.ClassFile.Instr × Nat) := [(0, .iload_n 3, 1), (1, .aload_n 0, 1), (2, .getfield 18, 3), (5, .getfield 22, 3), (8, .iload_n 1, 1), (9, .iconst 3, 1), (10, .invokevirtual 49, 3), (13, .isub, 1), (14, .istore 4, 2), (16, .iconst 0, 1), (17, .istore 5, 2), (19, .iload 5, 2), (21, .bipush 16, 2), (23, .if_icmp .ge 68, 3), (26, .iconst 1, 1), (27, .iload 5, 2), (29, .ishl, 1), (30, .istore 6, 2), (32, .iload_n 1, 1), (33, .bipush 6, 2), (35, .if_icmp .ge 23, 3), (58, .iconst 0, 1), (59, .istore 7, 2), (61, .iload 7, 2), (63, .ifCond .eq 22, 3), (85, .iinc 5 1, 3), (88, .goto (-69), 3), (38, .aload_n 0, 1), (39, .getfield 9, 3), (42, .iload_n 1, 1), (43, .iaload, 1), (44, .iload 6, 2)]
theorem daX3_firstJar_37_0 : dtX3_firstJar_37_0.all (dqd cX3_firstJar) = true := by decide +kernel
theorem dX3_firstJar_0 : decode cX3_firstJar 0 = .ok (.iload_n 3, 1) := dq daX3_firstJar_37_0 0 rfl
theorem dX3_firstJar_1 : decode cX3_firstJar 1 = .ok (.aload_n 0, 1) := dq daX3_firstJar_37_0 1 rfl
theorem dX3_firstJar_2 : decode cX3_firstJar 2 = .ok (.getfield 18, 3) := dq daX3_firstJar_37_0 2 rfl
theorem dX3_firstJar_5 : decode cX3_firstJar 5 = .ok (.getfield 22, 3) := dq daX3_firstJar_37_0 3 rfl
theorem dX3_firstJar_8 : decode cX3_firstJar 8 = .ok (.iload_n 1, 1) := dq daX3_firstJar_37_0 4 rfl
theorem dX3_firstJar_9 : decode cX3_firstJar 9 = .ok (.iconst 3, 1) := dq daX3_firstJar_37_0 5 rfl
theorem dX3_firstJar_10 : decode cX3_firstJar 10 = .ok (.invokevirtual 49, 3) := dq daX3_firstJar_37_0 6 rfl
theorem dX3_firstJar_13 : decode cX3_firstJar 13 = .ok (.isub, 1) := dq daX3_firstJar_37_0 7 rfl
theorem dX3_firstJar_14 : decode cX3_firstJar 14 = .ok (.istore 4, 2) := dq daX3_firstJar_37_0 8 rfl
theorem dX3_firstJar_16 : decode cX3_firstJar 16 = .ok (.iconst 0, 1) := dq daX3_firstJar_37_0 9 rfl
theorem dX3_firstJar_17 : decode cX3_firstJar 17 = .ok (.istore 5, 2) := dq daX3_firstJar_37_0 10 rfl
theorem dX3_firstJar_19 : decode cX3_firstJar 19 = .ok (.iload 5, 2) := dq daX3_firstJar_37_0 11 rfl
theorem dX3_firstJar_21 : decode cX3_firstJar 21 = .ok (.bipush 16, 2) := dq daX3_firstJar_37_0 12 rfl
theorem dX3_firstJar_23 : decode cX3_firstJar 23 = .ok (.if_icmp .ge 68, 3) := dq daX3_firstJar_37_0 13 rfl
theorem dX3_firstJar_26 : decode cX3_firstJar 26 = .ok (.iconst 1, 1) := dq daX3_firstJar_37_0 14 rfl
theorem dX3_firstJar_27 : decode cX3_firstJar 27 = .ok (.iload 5, 2) := dq daX3_firstJar_37_0 15 rfl
theorem dX3_firstJar_29 : decode cX3_firstJar 29 = .ok (.ishl, 1) := dq daX3_firstJar_37_0 16 rfl
theorem dX3_firstJar_30 : decode cX3_firstJar 30 = .ok (.istore 6, 2) := dq daX3_firstJar_37_0 17 rfl
theorem dX3_firstJar_32 : decode cX3_firstJar 32 = .ok (.iload_n 1, 1) := dq daX3_firstJar_37_0 18 rfl
theorem dX3_firstJar_33 : decode cX3_firstJar 33 = .ok (.bipush 6, 2) := dq daX3_firstJar_37_0 19 rfl
theorem dX3_firstJar_35 : decode cX3_firstJar 35 = .ok (.if_icmp .ge 23, 3) := dq daX3_firstJar_37_0 20 rfl
theorem dX3_firstJar_58 : decode cX3_firstJar 58 = .ok (.iconst 0, 1) := dq daX3_firstJar_37_0 21 rfl
theorem dX3_firstJar_59 : decode cX3_firstJar 59 = .ok (.istore 7, 2) := dq daX3_firstJar_37_0 22 rfl
theorem dX3_firstJar_61 : decode cX3_firstJar 61 = .ok (.iload 7, 2) := dq daX3_firstJar_37_0 23 rfl
theorem dX3_firstJar_63 : decode cX3_firstJar 63 = .ok (.ifCond .eq 22, 3) := dq daX3_firstJar_37_0 24 rfl
theorem dX3_firstJar_85 : decode cX3_firstJar 85 = .ok (.iinc 5 1, 3) := dq daX3_firstJar_37_0 25 rfl
theorem dX3_firstJar_88 : decode cX3_firstJar 88 = .ok (.goto (-69), 3) := dq daX3_firstJar_37_0 26 rfl
theorem dX3_firstJar_38 : decode cX3_firstJar 38 = .ok (.aload_n 0, 1) := dq daX3_firstJar_37_0 27 rfl
theorem dX3_firstJar_39 : decode cX3_firstJar 39 = .ok (.getfield 9, 3) := dq daX3_firstJar_37_0 28 rfl
theorem dX3_firstJar_42 : decode cX3_firstJar 42 = .ok (.iload_n 1, 1) := dq daX3_firstJar_37_0 29 rfl
theorem dX3_firstJar_43 : decode cX3_firstJar 43 = .ok (.iaload, 1) := dq daX3_firstJar_37_0 30 rfl
theorem dX3_firstJar_44 : decode cX3_firstJar 44 = .ok (.iload 6, 2) := dq daX3_firstJar_37_0 31 rfl
def dtX3_firstJar_37_1 : List (Nat × Jvm.ClassFile.Instr × Nat) := [(46, .iand, 1), (47, .iload_n 2, 1), (48, .iconst (-1), 1), (49, .ixor, 1), (50, .iand, 1), (51, .ifCond .eq 7, 3), (54, .iconst 1, 1), (55, .goto 4, 3), (66, .aload_n 0, 1), (67, .iload_n 1, 1), (68, .iconst 1, 1), (69, .iadd, 1), (70, .iload_n 2, 1), (71, .iload 6, 2), (73, .ior, 1), (74, .invokevirtual 34, 3), (77, .iload 4, 2), (79, .if_icmp .ne 6, 3), (82, .iload 5, 2), (84, .ireturn, 1), (91, .bipush 16, 2), (93, .ireturn, 1)]
theorem daX3_firstJar_37_1 : dtX3_firstJar_37_1.all (dqd cX3_firstJar) = true := by decide +kernel
theorem dX3_firstJar_46 : decode cX3_firstJar 46 = .ok (.iand, 1) := dq daX3_firstJar_37_1 0 rfl
theorem dX3_firstJar_47 : decode cX3_firstJar 47 = .ok (.iload_n 2, 1) := dq daX3_firstJar_37_1 1 rfl
theorem dX3_firstJar_48 : decode cX3_firstJar 48 = .ok (.iconst (-1), 1) := dq daX3_firstJar_37_1 2 rfl
theorem dX3_firstJar_49 : decode cX3_firstJar 49 = .ok (.ixor, 1) := dq daX3_firstJar_37_1 3 rfl
theorem dX3_firstJar_50 : decode cX3_firstJar 50 = .ok (.iand, 1) := dq daX3_firstJar_37_1 4 rfl
theorem dX3_firstJar_51 : decode cX3_firstJar 51 = .ok (.ifCond .eq 7, 3) := dq daX3_firstJar_37_1 5 rfl
theorem dX3_firstJar_54 : decode cX3_firstJar 54 = .ok (.iconst 1, 1) := dq daX3_firstJar_37_1 6 rfl
theorem dX3_firstJar_55 : decode cX3_firstJar 55 = .ok (.goto 4, 3) := dq daX3_firstJar_37_1 7 rfl
theorem dX3_firstJar_66 : decode cX3_firstJar 66 = .ok (.aload_n 0, 1) := dq daX3_firstJar_37_1 8 rfl
theorem dX3_firstJar_67 : decode cX3_firstJar 67 = .ok (.iload_n 1, 1) := dq daX3_firstJar_37_1 9 rfl
theorem dX3_firstJar_68 : decode cX3_firstJar 68 = .ok (.iconst 1, 1) := dq daX3_firstJar_37_1 10 rfl
theorem dX3_firstJar_69 : decode cX3_firstJar 69 = .ok (.iadd, 1) := dq daX3_firstJar_37_1 11 rfl
theorem dX3_firstJar_70 : decode cX3_firstJar 70 = .ok (.iload_n 2, 1) := dq daX3_firstJar_37_1 12 rfl
theorem dX3_firstJar_71 : decode cX3_firstJar 71 = .ok (.iload 6, 2) := dq daX3_firstJar_37_1 13 rfl
theorem dX3_firstJar_73 : decode cX3_firstJar 73 = .ok (.ior, 1) := dq daX3_firstJar_37_1 14 rfl
theorem dX3_firstJar_74 : decode cX3_firstJar 74 = .ok (.invokevirtual 34, 3) := dq daX3_firstJar_37_1 15 rfl
theorem dX3_firstJar_77 : decode cX3_firstJar 77 = .ok (.iload 4, 2) := dq daX3_firstJar_37_1 16 rfl
theorem dX3_firstJar_79 : decode cX3_firstJar 79 = .ok (.if_icmp .ne 6, 3) := dq daX3_firstJar_37_1 17 rfl
theorem dX3_firstJar_82 : decode cX3_firstJar 82 = .ok (.iload 5, 2) := dq daX3_firstJar_37_1 18 rfl
theorem dX3_firstJar_84 : decode cX3_firstJar 84 = .ok (.ireturn, 1) := dq daX3_firstJar_37_1 19 rfl
theorem dX3_firstJar_91 : decode cX3_firstJar 91 = .ok (.bipush 16, 2) := dq daX3_firstJar_37_1 20 rfl
theorem dX3_firstJar_93 : decode cX3_firstJar 93 = .ok (.ireturn, 1) := dq daX3_firstJar_37_1 21 rfl
def dtX3_choose_37_0 : List (Nat × Jvm.ClassFile.Instr × Nat) := [(0, .aload_n 0, 1), (1, .aload_n 0, 1), (2, .iconst 0, 1), (3, .iconst 0, 1), (4, .invokevirtual 34, 3), (7, .putfield 38, 3), (10, .aload_n 0, 1), (11, .getfield 38, 3), (14, .istore_n 1, 1), (15, .iconst 0, 1), (16, .istore_n 2, 1), (17, .iconst 0, 1), (18, .istore_n 3, 1), (19, .iload_n 3, 1), (20, .aload_n 0, 1), (21, .getfield 18, 3), (24, .getfield 22, 3), (27, .getfield 42, 3), (30, .if_icmp .ge 61, 3), (33, .iload_n 3, 1), (34, .bipush 6, 2), (36, .if_icmp .ge 55, 3), (39, .aload_n 0, 1), (40, .iload_n 3, 1), (41, .iload_n 2, 1), (42, .iload_n 1, 1), (43, .invokevirtual 45, 3), (46, .istore 4, 2), (48, .aload_n 0, 1), (49, .getfield 15, 3), (52, .iload_n 3, 1), (53, .iload 4, 2)]
theorem daX3_choose_37_0 : dtX3_choose_37_0.all (dqd cX3_choose) = true := by decide +kernel
theorem dX3_choose_0 : decode cX3_choose 0 = .ok (.aload_n 0, 1) := dq daX3_choose_37_0 0 rfl
theorem dX3_choose_1 : decode cX3_choose 1 = .ok (.aload_n 0, 1) := dq daX3_choose_37_0 1 rfl
theorem dX3_choose_2 : decode cX3_choose 2 = .ok (.iconst 0, 1) := dq daX3_choose_37_0 2 rfl
theorem dX3_choose_3 : decode cX3_choose 3 = .ok (.iconst 0, 1) := dq daX3_choose_37_0 3 rfl
theorem dX3_choose_4 : decode cX3_choose 4 = .ok (.invokevirtual 34, 3) := dq daX3_choose_37_0 4 rfl
theorem dX3_choose_7 : decode cX3_choose 7 = .ok (.putfield 38, 3) := dq daX3_choose_37_0 5 rfl
theorem dX3_choose_10 : decode cX3_choose 10 = .ok (.aload_n 0, 1) := dq daX3_choose_37_0 6 rfl
theorem dX3_choose_11 : decode cX3_choose 11 = .ok (.getfield 38, 3) := dq daX3_choose_37_0 7 rfl
theorem dX3_choose_14 : decode cX3_choose 14 = .ok (.istore_n 1, 1) := dq daX3_choose_37_0 8 rfl
theorem dX3_choose_15 : decode cX3_choose 15 = .ok (.iconst 0, 1) := dq daX3_choose_37_0 9 rfl
theorem dX3_choose_16 : decode cX3_choose 16 = .ok (.istore_n 2, 1) := dq daX3_choose_37_0 10 rfl
theorem dX3_choose_17 : decode cX3_choose 17 = .ok (.iconst 0, 1) := dq daX3_choose_37_0 11 rfl
theorem dX3_choose_18 : decode cX3_choose 18 = .ok (.istore_n 3, 1) := dq daX3_choose_37_0 12 rfl
theorem dX3_choose_19 : decode cX3_choose 19 = .ok (.iload_n 3, 1) := dq daX3_choose_37_0 13 rfl
theorem dX3_choose_20 : decode cX3_choose 20 = .ok (.aload_n 0, 1) := dq daX3_choose_37_0 14 rfl
theorem dX3_choose_21 : decode cX3_choose 21 = .ok (.getfield 18, 3) := dq daX3_choose_37_0 15 rfl
theorem dX3_choose_24 : decode cX3_choose 24 = .ok (.getfield 22, 3) := dq daX3_choose_37_0 16 rfl
theorem dX3_choose_27 : decode cX3_choose 27 = .ok (.getfield 42, 3) := dq daX3_choose_37_0 17 rfl
theorem dX3_choose_30 : decode cX3_choose 30 = .ok (.if_icmp .ge 61, 3) := dq daX3_choose_37_0 18 rfl
theorem dX3_choose_33 : decode cX3_choose 33 = .ok (.iload_n 3, 1) := dq daX3_choose_37_0 19 rfl
theorem dX3_choose_34 : decode cX3_choose 34 = .ok (.bipush 6, 2) := dq daX3_choose_37_0 20 rfl
theorem dX3_choose_36 : decode cX3_choose 36 = .ok (.if_icmp .ge 55, 3) := dq daX3_choose_37_0 21 rfl
theorem dX3_choose_39 : decode cX3_choose 39 = .ok (.aload_n 0, 1) := dq daX3_choose_37_0 22 rfl
theorem dX3_choose_40 : decode cX3_choose 40 = .ok (.iload_n 3, 1) := dq daX3_choose_37_0 23 rfl
theorem dX3_choose_41 : decode cX3_choose 41 = .ok (.iload_n 2, 1) := dq daX3_choose_37_0 24 rfl
theorem dX3_choose_42 : decode cX3_choose 42 = .ok (.iload_n 1, 1) := dq daX3_choose_37_0 25 rfl
theorem dX3_choose_43 : decode cX3_choose 43 = .ok (.invokevirtual 45, 3) := dq daX3_choose_37_0 26 rfl
theorem dX3_choose_46 : decode cX3_choose 46 = .ok (.istore 4, 2) := dq daX3_choose_37_0 27 rfl
theorem dX3_choose_48 : decode cX3_choose 48 = .ok (.aload_n 0, 1) := dq daX3_choose_37_0 28 rfl
theorem dX3_choose_49 : decode cX3_choose 49 = .ok (.getfield 15, 3) := dq daX3_choose_37_0 29 rfl
theorem dX3_choose_52 : decode cX3_choose 52 = .ok (.iload_n 3, 1) := dq daX3_choose_37_0 30 rfl
theorem dX3_choose_53 : decode cX3_choose 53 = .ok (.iload 4, 2) := dq daX3_choose_37_0 31 rfl
def dtX3_choose_37_1 : List (Nat × Jvm.ClassFile.Instr × Nat) := [(55, .iastore, 1), (56, .iload 4, 2), (58, .bipush 16, 2), (60, .if_icmp .eq 25, 3), (85, .iinc 3 1, 3), (88, .goto (-69), 3), (63, .iload_n 2, 1), (64, .iconst 1, 1), (65, .iload 4, 2), (67, .ishl, 1), (68, .ior, 1), (69, .istore_n 2, 1), (70, .iload_n 1, 1), (71, .aload_n 0, 1), (72, .getfield 18, 3), (75, .getfield 22, 3), (78, .iload_n 3, 1), (79, .iconst 3, 1), (80, .invokevirtual 49, 3), (83, .isub, 1), (84, .istore_n 1, 1), (91, .return_, 1)]
theorem daX3_choose_37_1 : dtX3_choose_37_1.all (dqd cX3_choose) = true := by decide +kernel
theorem dX3_choose_55 : decode cX3_choose 55 = .ok (.iastore, 1) := dq daX3_choose_37_1 0 rfl
theorem dX3_choose_56 : decode cX3_choose 56 = .ok (.iload 4, 2) := dq daX3_choose_37_1 1 rfl
theorem dX3_choose_58 : decode cX3_choose 58 = .ok (.bipush 16, 2) := dq daX3_choose_37_1 2 rfl
theorem dX3_choose_60 : decode cX3_choose 60 = .ok (.if_icmp .eq 25, 3) := dq daX3_choose_37_1 3 rfl
theorem dX3_choose_85 : decode cX3_choose 85 = .ok (.iinc 3 1, 3) := dq daX3_choose_37_1 4 rfl
theorem dX3_choose_88 : decode cX3_choose 88 = .ok (.goto (-69), 3) := dq daX3_choose_37_1 5 rfl
theorem dX3_choose_63 : decode cX3_choose 63 = .ok (.iload_n 2, 1) := dq daX3_choose_37_1 6 rfl
theorem dX3_choose_64 : decode cX3_choose 64 = .ok (.iconst 1, 1) := dq daX3_choose_37_1 7 rfl
theorem dX3_choose_65 : decode cX3_choose 65 = .ok (.iload 4, 2) := dq daX3_choose_37_1 8 rfl
theorem dX3_choose_67 : decode cX3_choose 67 = .ok (.ishl, 1) := dq daX3_choose_37_1 9 rfl
theorem dX3_choose_68 : decode cX3_choose 68 = .ok (.ior, 1) := dq daX3_choose_37_1 10 rfl
theorem dX3_choose_69 : decode cX3_choose 69 = .ok (.istore_n 2, 1) := dq daX3_choose_37_1 11 rfl
theorem dX3_choose_70 : decode cX3_choose 70 = .ok (.iload_n 1, 1) := dq daX3_choose_37_1 12 rfl
theorem dX3_choose_71 : decode cX3_choose 71 = .ok (.aload_n 0, 1) := dq daX3_choose_37_1 13 rfl
theorem dX3_choose_72 : decode cX3_choose 72 = .ok (.getfield 18, 3) := dq daX3_choose_37_1 14 rfl
theorem dX3_choose_75 : decode cX3_choose 75 = .ok (.getfield 22, 3) := dq daX3_choose_37_1 15 rfl
theorem dX3_choose_78 : decode cX3_choose 78 = .ok (.iload_n 3, 1) := dq daX3_choose_37_1 16 rfl
theorem dX3_choose_79 : decode cX3_choose 79 = .ok (.iconst 3, 1) := dq daX3_choose_37_1 17 rfl
theorem dX3_choose_80 : decode cX3_choose 80 = .ok (.invokevirtual 49, 3) := dq daX3_choose_37_1 18 rfl
theorem dX3_choose_83 : decode cX3_choose 83 = .ok (.isub, 1) := dq daX3_choose_37_1 19 rfl
theorem dX3_choose_84 : decode cX3_choose 84 = .ok (.istore_n 1, 1) := dq daX3_choose_37_1 20 rfl
theorem dX3_choose_91 : decode cX3_choose 91 = .ok (.return_, 1) := dq daX3_choose_37_1 21 rfl
set_option maxRecDepth 100000 in
def fb_mX3_open_2  (E21 : (Nat → Int32) → Int32 → ((Nat → Int32))) (K : (Nat → Int32) → Int32 → ((Nat → Int32))) (g2_0 : Nat → Int32) (l2_1 : Int32) : (Nat → Int32) := if 6 ≤ l2_1 then (E21 g2_0 l2_1) else (bnd ((upd g2_0 l2_1.toNatClampNeg 0)) (fun (fy2_2 : Nat → Int32) => bnd ((l2_1 + 1)) (fun (xy2_3 : Int32) => K fy2_2 xy2_3)))
def fl_mX3_open_2  (E21 : (Nat → Int32) → Int32 → ((Nat → Int32))) : Nat → (Nat → Int32) → Int32 → ((Nat → Int32))
  | 0, _, _ => (fun _ => 0)
  | n + 1, g2_0, l2_1 => fb_mX3_open_2 E21 (fl_mX3_open_2 E21 n) g2_0 l2_1
set_option maxHeartbeats 4000000 in
set_option maxRecDepth 100000 in
theorem lp_mX3_open_2 {p : Program} {l : Launch} {e : Env} {R : Room} {s : State} {m : MethodId} {args : Array Value} {below : List Frame} {meth : Method} {c : Code} {Q : State → Prop} {dC : Nat → ClassId} {dI : Nat → Nat → Nat} {kA : Nat → ClassId} {A : Nat → Prop} {H0 : Heap} {cells slots : Nat} (hx : p.tables.exec = Jvm.exec) (hb : c.code = cX3_open) (hml : c.maxLocals = 2) (hts : ∀ w ∈ wsX3_open, w.before args s = true) (hown : s.vm.findClass RX3 = some m.cls) (hK : zK dC dI kA s) (hA : ∀ q, H0.size ≤ q → A q) (hRf : 0 ≤ R.frames) (hRl : 0 ≤ R.locals) (hRc : cells ≤ R.cells) (hRs : slots ≤ R.slots) (m0 : Nat) (k_paid : Int32) (ko : Nat) (kc : Nat) (w0 : Nat) {G : (Nat → Int32)} {E21 : (Nat → Int32) → Int32 → ((Nat → Int32))}  (k21 : ∀ (w21_0 : Nat → Int32) (w21_1 : Int32) (H : Heap) (locs : List Loc) (ls : Array Slot), ¬ w21_1 < 0 → E21 w21_0 w21_1 = G → va_P (dC, dI) vwCl [(m0, .inr (3, [.int k_paid, .ref ko, .ref kc, .ref w0])), (ko, .inl (kA 0, 6, .inl w21_0))] H → va_D A [(m0, .inr (3, [.int k_paid, .ref ko, .ref kc, .ref w0])), (ko, .inl (kA 0, 6, .inl w21_0))] → va_S A H0 H locs → lv_has ls 2 [(1, .int w21_1), (0, .ref m0)] → W p l e R s m args below meth c H locs cells slots Q (F0 m 21 ls []))  : ∀ (n : Nat) (g2_0 : Nat → Int32) (l2_1 : Int32) (H : Heap) (locs : List Loc) (ls : Array Slot), ((6 : Int32).toInt - l2_1.toInt).toNat < n → fl_mX3_open_2 E21 n g2_0 l2_1 = G → ¬ l2_1 < 0 → va_P (dC, dI) vwCl [(m0, .inr (3, [.int k_paid, .ref ko, .ref kc, .ref w0])), (ko, .inl (kA 0, 6, .inl g2_0))] H → va_D A [(m0, .inr (3, [.int k_paid, .ref ko, .ref kc, .ref w0])), (ko, .inl (kA 0, 6, .inl g2_0))] → va_S A H0 H locs → lv_has ls 2 [(1, .int l2_1), (0, .ref m0)] → W p l e R s m args below meth c H locs cells slots Q (F0 m 2 ls []) := by
  intro n
  induction n with
  | zero =>
    intro g2_0 l2_1 H locs ls hn
    exact absurd hn (Nat.not_lt_zero _)
  | succ n ih =>
    intro g2_0 l2_1 H locs ls hn hG hi2 hP hD hS hl
    have hG : fb_mX3_open_2 E21 (fl_mX3_open_2 E21 n) g2_0 l2_1 = G := hG
    unfold fb_mX3_open_2 at hG
    refine lv_iload_n hx hb dX3_open_2 rfl (lv_at hl 0 rfl) ?_
    refine lv_bipush (v := 6) hx hb dX3_open_3 (by decide) ?_
    refine lv_icmp_ge (tgt := 21) hx hb dX3_open_5 (by decide) (fun c_y2_1 => ?_) (fun c_y2_1 => ?_)
    · have hG := zthen hG c_y2_1
      exact k21 g2_0 l2_1 H locs ls hi2 hG (hP.sub [0, 1] rfl) (hD.sub [0, 1] (by decide) rfl) hS (lv_sub hl [0, 1] rfl)
    · have hG := zelse hG c_y2_1
      refine lv_aload_n hx hb dX3_open_8 rfl (lv_at hl 1 rfl) ?_
      refine va_get (D := (dC, dI)) (ci := 3) (v := .ref ko) (C := RX3) (T := TX3) (N := 4) hx hb hts iX3_open_X3 hown hK.1 hP 0 gz0 vcz3 1 (by decide) (kX3_open_1 hts) (fun _ h9 => h9) gz1 dX3_open_9 ?_
      refine lv_iload_n hx hb dX3_open_12 rfl (lv_at hl 0 rfl) ?_
      refine lv_iconst (v := 0) hx hb dX3_open_13 (by decide) ?_
      refine va_iast hx hb hK.1 hP hD hS 1 0 gz1 tzz0 (vp_lt (by decide) hi2 c_y2_1) dX3_open_14 (fun H locs hP hD hS => ?_)
      obtain ⟨hP, hD⟩ := z_re (L := [(m0, .inr (3, [.int k_paid, .ref ko, .ref kc, .ref w0])), (ko, .inl (kA 0, 6, .inl (upd g2_0 l2_1.toNatClampNeg 0)))]) hP hD
      obtain ⟨fy2_2, efy2_2⟩ : ∃ y : Nat → Int32, y = (upd g2_0 l2_1.toNatClampNeg 0) := ⟨_, rfl⟩
      rw [← efy2_2] at hP hD
      have hG := zbnd hG efy2_2
      obtain ⟨xy2_3, exy2_3⟩ : ∃ y : Int32, y = l2_1 + 1 := ⟨_, rfl⟩
      have hG := zbnd hG exy2_3
      refine lv_iinc (v := xy2_3) (lv' := [(1, .int xy2_3), (0, .ref m0)]) hx hb dX3_open_15 hl (k := 0) rfl (by rw [exy2_3]; rfl) (by decide) rfl (fun ls hl => ?_)
      refine lv_goto (tgt := 2) hx hb dX3_open_18 (by decide) ?_
      exact ih fy2_2 xy2_3 H locs ls (z_up hn exy2_3 c_y2_1) hG (z_nn exy2_3 c_y2_1 hi2) (hP.sub [0, 1] rfl) (hD.sub [0, 1] (by decide) rfl) hS (lv_sub hl [0, 1] rfl)
set_option maxRecDepth 100000 in
def fX3_open (koF : Nat → Int32) : (Nat → Int32) := fl_mX3_open_2  (fun (w21_0_0 : Nat → Int32) (w21_1_0 : Int32) => w21_0_0) (((6 : Int32).toInt - (0 : Int32).toInt).toNat + 1) koF 0
set_option maxHeartbeats 4000000 in
set_option maxRecDepth 100000 in
theorem mX3_open (l : Launch) (dC : Nat → ClassId) (dI : Nat → Nat → Nat) (kA : Nat → ClassId) (sz : Nat) (m0 : Nat) (k_paid : Int32) (ko : Nat) (kc : Nat) (koF : Nat → Int32) (w0 : Nat)  : Met l yX3_open wsX3_open ({ frames := 0, cells := 0, slots := 0, locals := 0 }) (zPc dC dI kA sz [.ref m0] [(m0, .inr (3, [.int k_paid, .ref ko, .ref kc, .ref w0])), (ko, .inl (kA 0, 6, .inl koF))]) (va_Qv (fun (u : (Nat → Int32)) => u = fX3_open koF) (zB dC dI (va_A [(m0, .inr (3, [.int k_paid, .ref ko, .ref kc, .ref w0])), (ko, .inl (kA 0, 6, .inl koF))] sz) (fun (u : (Nat → Int32)) => [(m0, .inr (3, [.int k_paid, .ref ko, .ref kc, .ref w0])), (ko, .inl (kA 0, 6, .inl u))])) (va_A [(m0, .inr (3, [.int k_paid, .ref ko, .ref kc, .ref w0])), (ko, .inl (kA 0, 6, .inl koF))] sz)) 0 0 (va_A [(m0, .inr (3, [.int k_paid, .ref ko, .ref kc, .ref w0])), (ko, .inl (kA 0, 6, .inl koF))] sz) := by
  refine Met.ofW (cc := cX3_open) (maxL := 2) (ret := none) pnX3 rfl ?_
  intro p e s m args below meth c s₁ B hml hv
  obtain ⟨rfl, hsz, hP, hK, hD0⟩ := hv
  have hx := B.exec
  have hb := B.bytes
  have hr := B.returns
  have hts := atoms_spec (ws := wsX3_open) B.pre
  have hown : s.vm.findClass RX3 = some m.cls := findClass_of_methodNamed B.named
  have hlocks := B.notSynchronized
  subst hsz
  have hD := hD0.self (sz := s.heap.size)
  generalize hAe : va_A [(m0, .inr (3, [.int k_paid, .ref ko, .ref kc, .ref w0])), (ko, .inl (kA 0, 6, .inl koF))] s.heap.size = A at hD ⊢
  have hA : ∀ q : Nat, s.heap.size ≤ q → A q := zA_of hAe
  have hS : va_S A s.heap s.heap [] := va_S.rf
  have hP : va_P (dC, dI) vwCl [(m0, .inr (3, [.int k_paid, .ref ko, .ref kc, .ref w0])), (ko, .inl (kA 0, 6, .inl koF))] s.heap := hP
  have hl := lv_entry ([.ref m0]) (n := 2) (Nat.le_of_ble_eq_true rfl)
  rw [lg_entry_eq]
  generalize (lg_sl ([.ref m0]) ++ List.replicate (2 - (lg_sl ([.ref m0])).length) Slot.unset).toArray = ls at hl ⊢
  have hl : lv_has ls 2 [(0, .ref m0)] := hl
  obtain ⟨H, hHe⟩ : ∃ H : Heap, H = s.heap := ⟨_, rfl⟩
  obtain ⟨G, hG0⟩ : ∃ G : (Nat → Int32), fX3_open koF = G := ⟨_, rfl⟩
  have hG := hG0
  unfold fX3_open at hG
  refine lv_iconst (v := 0) hx hb dX3_open_0 (by decide) ?_
  refine lv_istore_n (lv' := [(1, .int 0), (0, .ref m0)]) hx hb dX3_open_1 rfl hl (by decide) rfl (fun ls hl => ?_)
  refine lp_mX3_open_2 hx hb hml hts hown hK hA (Nat.le_of_ble_eq_true rfl) (Nat.le_of_ble_eq_true rfl) (Nat.le_of_ble_eq_true rfl) (Nat.le_of_ble_eq_true rfl) m0 k_paid ko kc w0  (fun w21_0_0 w21_1_0 H locs ls hx21_1_nlt00_0 hG hP hD hS hl => ?_) _ koF 0 _ _ ls (Nat.lt_succ_self _) hG (by decide) hP hD hS (lv_sub hl [0, 1] rfl)
  obtain ⟨hP, hD⟩ := z_re (L := [(m0, .inr (3, [.int k_paid, .ref ko, .ref kc, .ref w0])), (ko, .inl (kA 0, 6, .inl w21_0_0))]) hP hD
  obtain ⟨hP9, hD9⟩ := z_sb (L' := [(m0, .inr (3, [.int k_paid, .ref ko, .ref kc, .ref w0])), (ko, .inl (kA 0, 6, .inl w21_0_0))]) hP hD [0, 1] (by decide) rfl
  refine W.widen (k := 0) (n := 0) (Nat.le_of_ble_eq_true rfl) (Nat.le_of_ble_eq_true rfl) ?_
  exact W.vret hx hb hr (fun t ht hW => ⟨⟨(w21_0_0), rfl, (hG.trans hG0.symm), by rw [ht]; exact hP9, hD9⟩, hS.F ht⟩) hS.2.2 dX3_open_21
set_option maxRecDepth 100000 in
def fX3_offer (koF : Nat → Int32) (p0 : Int32) (p1 : Int32) : (Nat → Int32) := if p1 < 0 then (koF) else (if 6 ≤ p1 then (koF) else (bnd (koF p1.toNatClampNeg) (fun (x3 : Int32) => bnd ((1 <<< (p0 &&& 31))) (fun (x4 : Int32) => bnd ((upd koF p1.toNatClampNeg (x3 ||| x4))) (fun (f5 : Nat → Int32) => f5)))))
set_option maxHeartbeats 4000000 in
set_option maxRecDepth 100000 in
theorem mX3_offer (l : Launch) (dC : Nat → ClassId) (dI : Nat → Nat → Nat) (kA : Nat → ClassId) (sz : Nat) (m0 : Nat) (k_paid : Int32) (ko : Nat) (kc : Nat) (koF : Nat → Int32) (w0 : Nat) (p0 : Int32) (p1 : Int32)  : Met l yX3_offer wsX3_offer ({ frames := 0, cells := 0, slots := 0, locals := 0 }) (zPc dC dI kA sz [.ref m0, .int p0, .int p1] [(m0, .inr (3, [.int k_paid, .ref ko, .ref kc, .ref w0])), (ko, .inl (kA 0, 6, .inl koF))]) (va_Qv (fun (u : (Nat → Int32)) => u = fX3_offer koF p0 p1) (zB dC dI (va_A [(m0, .inr (3, [.int k_paid, .ref ko, .ref kc, .ref w0])), (ko, .inl (kA 0, 6, .inl koF))] sz) (fun (u : (Nat → Int32)) => [(m0, .inr (3, [.int k_paid, .ref ko, .ref kc, .ref w0])), (ko, .inl (kA 0, 6, .inl u))])) (va_A [(m0, .inr (3, [.int k_paid, .ref ko, .ref kc, .ref w0])), (ko, .inl (kA 0, 6, .inl koF))] sz)) 0 0 (va_A [(m0, .inr (3, [.int k_paid, .ref ko, .ref kc, .ref w0])), (ko, .inl (kA 0, 6, .inl koF))] sz) := by
  refine Met.ofW (cc := cX3_offer) (maxL := 3) (ret := none) pnX3 rfl ?_
  intro p e s m args below meth c s₁ B hml hv
  obtain ⟨rfl, hsz, hP, hK, hD0⟩ := hv
  have hx := B.exec
  have hb := B.bytes
  have hr := B.returns
  have hts := atoms_spec (ws := wsX3_offer) B.pre
  have hown : s.vm.findClass RX3 = some m.cls := findClass_of_methodNamed B.named
  have hlocks := B.notSynchronized
  subst hsz
  have hD := hD0.self (sz := s.heap.size)
  generalize hAe : va_A [(m0, .inr (3, [.int k_paid, .ref ko, .ref kc, .ref w0])), (ko, .inl (kA 0, 6, .inl koF))] s.heap.size = A at hD ⊢
  have hA : ∀ q : Nat, s.heap.size ≤ q → A q := zA_of hAe
  have hS : va_S A s.heap s.heap [] := va_S.rf
  have hP : va_P (dC, dI) vwCl [(m0, .inr (3, [.int k_paid, .ref ko, .ref kc, .ref w0])), (ko, .inl (kA 0, 6, .inl koF))] s.heap := hP
  have hl := lv_entry ([.ref m0, .int p0, .int p1]) (n := 3) (Nat.le_of_ble_eq_true rfl)
  rw [lg_entry_eq]
  generalize (lg_sl ([.ref m0, .int p0, .int p1]) ++ List.replicate (3 - (lg_sl ([.ref m0, .int p0, .int p1])).length) Slot.unset).toArray = ls at hl ⊢
  have hl : lv_has ls 3 [(0, .ref m0), (1, .int p0), (2, .int p1)] := hl
  obtain ⟨G, hG0⟩ : ∃ G : (Nat → Int32), fX3_offer koF p0 p1 = G := ⟨_, rfl⟩
  have hG := hG0
  unfold fX3_offer at hG
  refine lv_iload_n hx hb dX3_offer_0 rfl (lv_at hl 2 rfl) ?_
  refine lv_if_lt (tgt := 22) hx hb dX3_offer_1 (by decide) (fun c_1 => ?_) (fun c_1 => ?_)
  · have hG := zthen hG c_1
    obtain ⟨hP9, hD9⟩ := z_sb (L' := [(m0, .inr (3, [.int k_paid, .ref ko, .ref kc, .ref w0])), (ko, .inl (kA 0, 6, .inl koF))]) hP hD [0, 1] (by decide) rfl
    refine W.widen (k := 0) (n := 0) (Nat.le_of_ble_eq_true rfl) (Nat.le_of_ble_eq_true rfl) ?_
    exact W.vret hx hb hr (fun t ht hW => ⟨⟨(koF), rfl, (hG.trans hG0.symm), by rw [ht]; exact hP9, hD9⟩, hS.F ht⟩) hS.2.2 dX3_offer_22
  · have hG := zelse hG c_1
    refine lv_iload_n hx hb dX3_offer_4 rfl (lv_at hl 2 rfl) ?_
    refine lv_bipush (v := 6) hx hb dX3_offer_5 (by decide) ?_
    refine lv_icmp_ge (tgt := 22) hx hb dX3_offer_7 (by decide) (fun c_2 => ?_) (fun c_2 => ?_)
    · have hG := zthen hG c_2
      obtain ⟨hP9, hD9⟩ := z_sb (L' := [(m0, .inr (3, [.int k_paid, .ref ko, .ref kc, .ref w0])), (ko, .inl (kA 0, 6, .inl koF))]) hP hD [0, 1] (by decide) rfl
      refine W.widen (k := 0) (n := 0) (Nat.le_of_ble_eq_true rfl) (Nat.le_of_ble_eq_true rfl) ?_
      exact W.vret hx hb hr (fun t ht hW => ⟨⟨(koF), rfl, (hG.trans hG0.symm), by rw [ht]; exact hP9, hD9⟩, hS.F ht⟩) hS.2.2 dX3_offer_22
    · have hG := zelse hG c_2
      refine lv_aload_n hx hb dX3_offer_10 rfl (lv_at hl 0 rfl) ?_
      refine va_get (D := (dC, dI)) (ci := 3) (v := .ref ko) (C := RX3) (T := TX3) (N := 4) hx hb hts iX3_offer_X3 hown hK.1 hP 0 gz0 vcz3 1 (by decide) (kX3_offer_1 hts) (fun _ h9 => h9) gz1 dX3_offer_11 ?_
      refine lv_iload_n hx hb dX3_offer_14 rfl (lv_at hl 2 rfl) ?_
      refine lv_dup2_11 hx hb dX3_offer_15 rfl rfl ?_
      refine va_iald hx hb hK.1 hP 1 0 gz1 tzz0 (vp_lt (by decide) c_1 c_2) dX3_offer_16 ?_
      refine lv_topi (fun x3 ex3 => ?_)
      have hG := zbnd hG ex3
      refine lv_iconst (v := 1) hx hb dX3_offer_17 (by decide) ?_
      refine lv_iload_n hx hb dX3_offer_18 rfl (lv_at hl 1 rfl) ?_
      refine lv_ishl hx hb dX3_offer_19 ?_
      refine lv_topi (fun x4 ex4 => ?_)
      have hG := zbnd hG ex4
      refine lv_ior hx hb dX3_offer_20 ?_
      refine va_iast hx hb hK.1 hP hD hS 1 0 gz1 tzz0 (vp_lt (by decide) c_1 c_2) dX3_offer_21 (fun H locs hP hD hS => ?_)
      obtain ⟨hP, hD⟩ := z_re (L := [(m0, .inr (3, [.int k_paid, .ref ko, .ref kc, .ref w0])), (ko, .inl (kA 0, 6, .inl (upd koF p1.toNatClampNeg (x3 ||| x4))))]) hP hD
      obtain ⟨f5, ef5⟩ : ∃ y : Nat → Int32, y = (upd koF p1.toNatClampNeg (x3 ||| x4)) := ⟨_, rfl⟩
      rw [← ef5] at hP hD
      have hG := zbnd hG ef5
      obtain ⟨hP9, hD9⟩ := z_sb (L' := [(m0, .inr (3, [.int k_paid, .ref ko, .ref kc, .ref w0])), (ko, .inl (kA 0, 6, .inl f5))]) hP hD [0, 1] (by decide) rfl
      refine W.widen (k := 0) (n := 0) (Nat.le_of_ble_eq_true rfl) (Nat.le_of_ble_eq_true rfl) ?_
      exact W.vret hx hb hr (fun t ht hW => ⟨⟨(f5), rfl, (hG.trans hG0.symm), by rw [ht]; exact hP9, hD9⟩, hS.F ht⟩) hS.2.2 dX3_offer_22
set_option maxRecDepth 100000 in
def fX3_jarFor (kcF : Nat → Int32) (tordersS : Int32) (p0 : Int32) : Int32 := if (hs p0 tordersS) = 0 then ((-2)) else (if 6 ≤ p0 then ((-2)) else (bnd (kcF p0.toNatClampNeg) (fun (x6 : Int32) => x6)))
set_option maxHeartbeats 4000000 in
set_option maxRecDepth 100000 in
theorem mX3_jarFor (l : Launch) (dC : Nat → ClassId) (dI : Nat → Nat → Nat) (kA : Nat → ClassId) (sz : Nat) (m0 : Nat) (k_paid : Int32) (ko : Nat) (kc : Nat) (kcF : Nat → Int32) (w0 : Nat) (tnodes : Nat) (tpasses : Nat) (tjars : Nat) (torders : Nat) (tordersA : Nat) (tordersS : Int32) (tfeasts : Nat) (tway : Nat) (tws : Int32) (tnow : Int32) (tfm : Int32) (tx : Int32) (p0 : Int32)  : Met l yX3_jarFor wsX3_jarFor ({ frames := 1, cells := 0, slots := 0, locals := 21 }) (zPc dC dI kA sz [.ref m0, .int p0] [(m0, .inr (3, [.int k_paid, .ref ko, .ref kc, .ref w0])), (kc, .inl (kA 0, 6, .inl kcF)), (w0, .inr (9, [.ref tnodes, .ref tpasses, .ref tjars, .ref torders, .ref tfeasts, .ref tway, .int tws, .int tnow, .int tfm, .int tx])), (torders, .inr (6, [.int 4, .ref tordersA, .int tordersS]))]) (va_Qi (fun (r : Int32) (u : Int32) => r = u ∧ u = fX3_jarFor kcF tordersS p0) (zB dC dI (va_A [(m0, .inr (3, [.int k_paid, .ref ko, .ref kc, .ref w0])), (kc, .inl (kA 0, 6, .inl kcF)), (w0, .inr (9, [.ref tnodes, .ref tpasses, .ref tjars, .ref torders, .ref tfeasts, .ref tway, .int tws, .int tnow, .int tfm, .int tx])), (torders, .inr (6, [.int 4, .ref tordersA, .int tordersS]))] sz) (fun (u : Int32) => [(m0, .inr (3, [.int k_paid, .ref ko, .ref kc, .ref w0])), (kc, .inl (kA 0, 6, .inl kcF)), (w0, .inr (9, [.ref tnodes, .ref tpasses, .ref tjars, .ref torders, .ref tfeasts, .ref tway, .int tws, .int tnow, .int tfm, .int tx])), (torders, .inr (6, [.int 4, .ref tordersA, .int tordersS]))])) (va_A [(m0, .inr (3, [.int k_paid, .ref ko, .ref kc, .ref w0])), (kc, .inl (kA 0, 6, .inl kcF)), (w0, .inr (9, [.ref tnodes, .ref tpasses, .ref tjars, .ref torders, .ref tfeasts, .ref tway, .int tws, .int tnow, .int tfm, .int tx])), (torders, .inr (6, [.int 4, .ref tordersA, .int tordersS]))] sz)) 0 0 (va_A [(m0, .inr (3, [.int k_paid, .ref ko, .ref kc, .ref w0])), (kc, .inl (kA 0, 6, .inl kcF)), (w0, .inr (9, [.ref tnodes, .ref tpasses, .ref tjars, .ref torders, .ref tfeasts, .ref tway, .int tws, .int tnow, .int tfm, .int tx])), (torders, .inr (6, [.int 4, .ref tordersA, .int tordersS]))] sz) := by
  refine Met.ofW (cc := cX3_jarFor) (maxL := 2) (ret := (some .int)) pnX3 rfl ?_
  intro p e s m args below meth c s₁ B hml hv
  obtain ⟨rfl, hsz, hP, hK, hD0⟩ := hv
  have hx := B.exec
  have hb := B.bytes
  have hr := B.returns
  have hts := atoms_spec (ws := wsX3_jarFor) B.pre
  have hown : s.vm.findClass RX3 = some m.cls := findClass_of_methodNamed B.named
  have hlocks := B.notSynchronized
  subst hsz
  have hD := hD0.self (sz := s.heap.size)
  generalize hAe : va_A [(m0, .inr (3, [.int k_paid, .ref ko, .ref kc, .ref w0])), (kc, .inl (kA 0, 6, .inl kcF)), (w0, .inr (9, [.ref tnodes, .ref tpasses, .ref tjars, .ref torders, .ref tfeasts, .ref tway, .int tws, .int tnow, .int tfm, .int tx])), (torders, .inr (6, [.int 4, .ref tordersA, .int tordersS]))] s.heap.size = A at hD ⊢
  have hA : ∀ q : Nat, s.heap.size ≤ q → A q := zA_of hAe
  have hS : va_S A s.heap s.heap [] := va_S.rf
  have hP : va_P (dC, dI) vwCl [(m0, .inr (3, [.int k_paid, .ref ko, .ref kc, .ref w0])), (kc, .inl (kA 0, 6, .inl kcF)), (w0, .inr (9, [.ref tnodes, .ref tpasses, .ref tjars, .ref torders, .ref tfeasts, .ref tway, .int tws, .int tnow, .int tfm, .int tx])), (torders, .inr (6, [.int 4, .ref tordersA, .int tordersS]))] s.heap := hP
  have hl := lv_entry ([.ref m0, .int p0]) (n := 2) (Nat.le_of_ble_eq_true rfl)
  rw [lg_entry_eq]
  generalize (lg_sl ([.ref m0, .int p0]) ++ List.replicate (2 - (lg_sl ([.ref m0, .int p0])).length) Slot.unset).toArray = ls at hl ⊢
  have hl : lv_has ls 2 [(0, .ref m0), (1, .int p0)] := hl
  obtain ⟨G, hG0⟩ : ∃ G : Int32, fX3_jarFor kcF tordersS p0 = G := ⟨_, rfl⟩
  have hG := hG0
  unfold fX3_jarFor at hG
  refine lv_aload_n hx hb dX3_jarFor_0 rfl (lv_at hl 0 rfl) ?_
  refine va_get (D := (dC, dI)) (ci := 3) (v := .ref w0) (C := RX3) (T := TX3) (N := 4) hx hb hts iX3_jarFor_X3 hown hK.1 hP 0 gz0 vcz3 3 (by decide) (kX3_jarFor_1 hts) (fun _ h9 => h9) gz3 dX3_jarFor_1 ?_
  refine va_get (D := (dC, dI)) (ci := 9) (v := .ref torders) (C := RX9) (T := TX9) (N := 10) hx hb hts iX3_jarFor_X9 hown hK.1 hP 2 gz2 vcz9 3 (by decide) (kX3_jarFor_2 hts) (fun _ h9 => h9) gz3 dX3_jarFor_4 ?_
  refine lv_iload_n hx hb dX3_jarFor_7 rfl (lv_at hl 1 rfl) ?_
  refine z_i (wr := [(m0, .inr (3, [.int k_paid, .ref ko, .ref kc, .ref w0])), (kc, .inl (kA 0, 6, .inl kcF)), (w0, .inr (9, [.ref tnodes, .ref tpasses, .ref tjars, .ref torders, .ref tfeasts, .ref tway, .int tws, .int tnow, .int tfm, .int tx]))]) (va_runV (As := [.int p0]) (rest := []) ⟨hx, hb, hml, hown, hts⟩ (mX6_has l dC dI kA _ torders tordersA 4 tordersS p0) (cwV 1 hts gX3_jarFor_X6_has rfl rfl rfl ⟨rfl, hdX6_has⟩ ⟨(Nat.le_of_ble_eq_true rfl), (Nat.le_of_ble_eq_true rfl)⟩) ⟨zPc.blind, va_recv (q := (RX6, TX6, 3)) hK.1 hP (ci := 6) (q0 := 3) rfl rfl, zPre hK (hP.sub [3] rfl) (hD.sub [3] (by decide) rfl)⟩ rfl rfl hl.1 rfl (lv_room (Nat.le_of_ble_eq_true rfl)) dX3_jarFor_8 ⟨(Nat.le_of_ble_eq_true rfl), (Nat.le_of_ble_eq_true rfl)⟩) hP hD hS hA [3] [0, 1, 2] rfl rfl (by decide) (by decide) (fun r3 u1 H locs hw2 hP hD hS => ?_)
  obtain rfl := hw2
  obtain ⟨hP, hD⟩ := z_re (L := [(m0, .inr (3, [.int k_paid, .ref ko, .ref kc, .ref w0])), (kc, .inl (kA 0, 6, .inl kcF)), (w0, .inr (9, [.ref tnodes, .ref tpasses, .ref tjars, .ref torders, .ref tfeasts, .ref tway, .int tws, .int tnow, .int tfm, .int tx])), (torders, .inr (6, [.int 4, .ref tordersA, .int tordersS]))]) hP hD
  refine lv_if_eq (tgt := 29) hx hb dX3_jarFor_11 (by decide) (fun c_4 => ?_) (fun c_4 => ?_)
  · have hG := zthen hG c_4
    refine lv_bipush (v := (-2)) hx hb dX3_jarFor_29 (by decide) ?_
    obtain ⟨hP9, hD9⟩ := z_sb (L' := [(m0, .inr (3, [.int k_paid, .ref ko, .ref kc, .ref w0])), (kc, .inl (kA 0, 6, .inl kcF)), (w0, .inr (9, [.ref tnodes, .ref tpasses, .ref tjars, .ref torders, .ref tfeasts, .ref tway, .int tws, .int tnow, .int tfm, .int tx])), (torders, .inr (6, [.int 4, .ref tordersA, .int tordersS]))]) hP hD [0, 1, 2, 3] (by decide) rfl
    refine W.widen (k := 0) (n := 0) (Nat.le_of_ble_eq_true rfl) (Nat.le_of_ble_eq_true rfl) ?_
    exact W.iret (v := (-2)) hx hb hr (fun t ht hW => ⟨⟨(-2), ((-2)), rfl, ⟨rfl, (hG.trans hG0.symm)⟩, by rw [ht]; exact hP9, hD9⟩, hS.F ht⟩) hS.2.2 dX3_jarFor_31
  · have hG := zelse hG c_4
    have c_4a := hs_ne c_4
    have c_4b := c_4a.2
    have c_4a := c_4a.1
    refine lv_iload_n hx hb dX3_jarFor_14 rfl (lv_at hl 1 rfl) ?_
    refine lv_bipush (v := 6) hx hb dX3_jarFor_15 (by decide) ?_
    refine lv_icmp_ge (tgt := 29) hx hb dX3_jarFor_17 (by decide) (fun c_5 => ?_) (fun c_5 => ?_)
    · have hG := zthen hG c_5
      refine lv_bipush (v := (-2)) hx hb dX3_jarFor_29 (by decide) ?_
      obtain ⟨hP9, hD9⟩ := z_sb (L' := [(m0, .inr (3, [.int k_paid, .ref ko, .ref kc, .ref w0])), (kc, .inl (kA 0, 6, .inl kcF)), (w0, .inr (9, [.ref tnodes, .ref tpasses, .ref tjars, .ref torders, .ref tfeasts, .ref tway, .int tws, .int tnow, .int tfm, .int tx])), (torders, .inr (6, [.int 4, .ref tordersA, .int tordersS]))]) hP hD [0, 1, 2, 3] (by decide) rfl
      refine W.widen (k := 0) (n := 0) (Nat.le_of_ble_eq_true rfl) (Nat.le_of_ble_eq_true rfl) ?_
      exact W.iret (v := (-2)) hx hb hr (fun t ht hW => ⟨⟨(-2), ((-2)), rfl, ⟨rfl, (hG.trans hG0.symm)⟩, by rw [ht]; exact hP9, hD9⟩, hS.F ht⟩) hS.2.2 dX3_jarFor_31
    · have hG := zelse hG c_5
      refine lv_aload_n hx hb dX3_jarFor_20 rfl (lv_at hl 0 rfl) ?_
      refine va_get (D := (dC, dI)) (ci := 3) (v := .ref kc) (C := RX3) (T := TX3) (N := 4) hx hb hts iX3_jarFor_X3 hown hK.1 hP 0 gz0 vcz3 2 (by decide) (kX3_jarFor_3 hts) (fun _ h9 => h9) gz2 dX3_jarFor_21 ?_
      refine lv_iload_n hx hb dX3_jarFor_24 rfl (lv_at hl 1 rfl) ?_
      refine va_iald hx hb hK.1 hP 1 0 gz1 tzz0 (vp_lt (by decide) c_4a c_5) dX3_jarFor_25 ?_
      refine lv_topi (fun x6 ex6 => ?_)
      have hG := zbnd hG ex6
      refine lv_goto (tgt := 31) hx hb dX3_jarFor_26 (by decide) ?_
      obtain ⟨hP9, hD9⟩ := z_sb (L' := [(m0, .inr (3, [.int k_paid, .ref ko, .ref kc, .ref w0])), (kc, .inl (kA 0, 6, .inl kcF)), (w0, .inr (9, [.ref tnodes, .ref tpasses, .ref tjars, .ref torders, .ref tfeasts, .ref tway, .int tws, .int tnow, .int tfm, .int tx])), (torders, .inr (6, [.int 4, .ref tordersA, .int tordersS]))]) hP hD [0, 1, 2, 3] (by decide) rfl
      refine W.widen (k := 0) (n := 0) (Nat.le_of_ble_eq_true rfl) (Nat.le_of_ble_eq_true rfl) ?_
      exact W.iret (v := x6) hx hb hr (fun t ht hW => ⟨⟨x6, (x6), rfl, ⟨rfl, (hG.trans hG0.symm)⟩, by rw [ht]; exact hP9, hD9⟩, hS.F ht⟩) hS.2.2 dX3_jarFor_31
set_option maxRecDepth 100000 in
def fb_mX3_priceOf_4 (tordersF : Nat → Int32) (p0 : Int32) (E40 : Int32 → Int32 → Int32) (K : Int32 → Int32 → Int32) (l4_0 : Int32) (l4_1 : Int32) : Int32 := if 6 ≤ l4_0 then (E40 l4_0 l4_1) else (bnd ((p0 >>> (l4_0 &&& 31))) (fun (xy4_2 : Int32) => if (xy4_2 &&& 1) = 1 then (bnd (fX6_get_24 4 tordersF l4_0 3) (fun (ry4_7 : Int32) => bnd ((l4_1 + ry4_7)) (fun (xy4_12 : Int32) => bnd ((l4_0 + 1)) (fun (xy4_13 : Int32) => K xy4_13 xy4_12)))) else (bnd ((l4_0 + 1)) (fun (xy4_4 : Int32) => K xy4_4 l4_1))))
def fl_mX3_priceOf_4 (tordersF : Nat → Int32) (p0 : Int32) (E40 : Int32 → Int32 → Int32) : Nat → Int32 → Int32 → Int32
  | 0, _, _ => 0
  | n + 1, l4_0, l4_1 => fb_mX3_priceOf_4 tordersF p0 E40 (fl_mX3_priceOf_4 tordersF p0 E40 n) l4_0 l4_1
set_option maxHeartbeats 4000000 in
set_option maxRecDepth 100000 in
theorem lp_mX3_priceOf_4 {p : Program} {l : Launch} {e : Env} {R : Room} {s : State} {m : MethodId} {args : Array Value} {below : List Frame} {meth : Method} {c : Code} {Q : State → Prop} {dC : Nat → ClassId} {dI : Nat → Nat → Nat} {kA : Nat → ClassId} {A : Nat → Prop} {H0 : Heap} {cells slots : Nat} (hx : p.tables.exec = Jvm.exec) (hb : c.code = cX3_priceOf) (hml : c.maxLocals = 4) (hts : ∀ w ∈ wsX3_priceOf, w.before args s = true) (hown : s.vm.findClass RX3 = some m.cls) (hK : zK dC dI kA s) (hA : ∀ q, H0.size ≤ q → A q) (hRf : 1 ≤ R.frames) (hRl : 23 ≤ R.locals) (hRc : cells ≤ R.cells) (hRs : slots ≤ R.slots) (m0 : Nat) (k_paid : Int32) (ko : Nat) (kc : Nat) (w0 : Nat) (tnodes : Nat) (tpasses : Nat) (tjars : Nat) (torders : Nat) (tordersA : Nat) (tordersS : Int32) (tordersF : Nat → Int32) (tfeasts : Nat) (tway : Nat) (tws : Int32) (tnow : Int32) (tfm : Int32) (tx : Int32) (p0 : Int32) {G : Int32} {E40 : Int32 → Int32 → Int32}  (k40 : ∀ (w40_0 : Int32) (w40_1 : Int32) (H : Heap) (locs : List Loc) (ls : Array Slot), ¬ w40_0 < 0 → E40 w40_0 w40_1 = G → va_P (dC, dI) vwCl [(m0, .inr (3, [.int k_paid, .ref ko, .ref kc, .ref w0])), (w0, .inr (9, [.ref tnodes, .ref tpasses, .ref tjars, .ref torders, .ref tfeasts, .ref tway, .int tws, .int tnow, .int tfm, .int tx])), (torders, .inr (6, [.int 4, .ref tordersA, .int tordersS])), (tordersA, .inl (kA 0, 24, .inl tordersF))] H → va_D A [(m0, .inr (3, [.int k_paid, .ref ko, .ref kc, .ref w0])), (w0, .inr (9, [.ref tnodes, .ref tpasses, .ref tjars, .ref torders, .ref tfeasts, .ref tway, .int tws, .int tnow, .int tfm, .int tx])), (torders, .inr (6, [.int 4, .ref tordersA, .int tordersS])), (tordersA, .inl (kA 0, 24, .inl tordersF))] → va_S A H0 H locs → lv_has ls 4 [(3, .int w40_0), (2, .int w40_1), (0, .ref m0), (1, .int p0)] → W p l e R s m args below meth c H locs cells slots Q (F0 m 40 ls []))  : ∀ (n : Nat) (l4_0 : Int32) (l4_1 : Int32) (H : Heap) (locs : List Loc) (ls : Array Slot), ((6 : Int32).toInt - l4_0.toInt).toNat < n → fl_mX3_priceOf_4 tordersF p0 E40 n l4_0 l4_1 = G → ¬ l4_0 < 0 → va_P (dC, dI) vwCl [(m0, .inr (3, [.int k_paid, .ref ko, .ref kc, .ref w0])), (w0, .inr (9, [.ref tnodes, .ref tpasses, .ref tjars, .ref torders, .ref tfeasts, .ref tway, .int tws, .int tnow, .int tfm, .int tx])), (torders, .inr (6, [.int 4, .ref tordersA, .int tordersS])), (tordersA, .inl (kA 0, 24, .inl tordersF))] H → va_D A [(m0, .inr (3, [.int k_paid, .ref ko, .ref kc, .ref w0])), (w0, .inr (9, [.ref tnodes, .ref tpasses, .ref tjars, .ref torders, .ref tfeasts, .ref tway, .int tws, .int tnow, .int tfm, .int tx])), (torders, .inr (6, [.int 4, .ref tordersA, .int tordersS])), (tordersA, .inl (kA 0, 24, .inl tordersF))] → va_S A H0 H locs → lv_has ls 4 [(3, .int l4_0), (2, .int l4_1), (0, .ref m0), (1, .int p0)] → W p l e R s m args below meth c H locs cells slots Q (F0 m 4 ls []) := by
  intro n
  induction n with
  | zero =>
    intro l4_0 l4_1 H locs ls hn
    exact absurd hn (Nat.not_lt_zero _)
  | succ n ih =>
    intro l4_0 l4_1 H locs ls hn hG hi4 hP hD hS hl
    have hG : fb_mX3_priceOf_4 tordersF p0 E40 (fl_mX3_priceOf_4 tordersF p0 E40 n) l4_0 l4_1 = G := hG
    unfold fb_mX3_priceOf_4 at hG
    refine lv_iload_n hx hb dX3_priceOf_4 rfl (lv_at hl 0 rfl) ?_
    refine lv_bipush (v := 6) hx hb dX3_priceOf_5 (by decide) ?_
    refine lv_icmp_ge (tgt := 40) hx hb dX3_priceOf_7 (by decide) (fun c_y4_1 => ?_) (fun c_y4_1 => ?_)
    · have hG := zthen hG c_y4_1
      exact k40 l4_0 l4_1 H locs ls hi4 hG (hP.sub [0, 1, 2, 3] rfl) (hD.sub [0, 1, 2, 3] (by decide) rfl) hS (lv_sub hl [0, 1, 2, 3] rfl)
    · have hG := zelse hG c_y4_1
      refine lv_iload_n hx hb dX3_priceOf_10 rfl (lv_at hl 3 rfl) ?_
      refine lv_iload_n hx hb dX3_priceOf_11 rfl (lv_at hl 0 rfl) ?_
      refine lv_ishr hx hb dX3_priceOf_12 ?_
      refine lv_topi (fun xy4_2 exy4_2 => ?_)
      have hG := zbnd hG exy4_2
      refine lv_iconst (v := 1) hx hb dX3_priceOf_13 (by decide) ?_
      refine lv_iand hx hb dX3_priceOf_14 ?_
      refine lv_iconst (v := 1) hx hb dX3_priceOf_15 (by decide) ?_
      refine lv_icmp_ne (tgt := 34) hx hb dX3_priceOf_16 (by decide) (fun c_y4_3 => ?_) (fun c_y4_3 => ?_)
      · have hG := zelse hG c_y4_3
        obtain ⟨xy4_4, exy4_4⟩ : ∃ y : Int32, y = l4_0 + 1 := ⟨_, rfl⟩
        have hG := zbnd hG exy4_4
        refine lv_iinc (v := xy4_4) (lv' := [(3, .int xy4_4), (2, .int l4_1), (0, .ref m0), (1, .int p0)]) hx hb dX3_priceOf_34 hl (k := 0) rfl (by rw [exy4_4]; rfl) (by decide) rfl (fun ls hl => ?_)
        refine lv_goto (tgt := 4) hx hb dX3_priceOf_37 (by decide) ?_
        exact ih xy4_4 l4_1 H locs ls (z_up hn exy4_4 c_y4_1) hG (z_nn exy4_4 c_y4_1 hi4) (hP.sub [0, 1, 2, 3] rfl) (hD.sub [0, 1, 2, 3] (by decide) rfl) hS (lv_sub hl [0, 1, 2, 3] rfl)
      · have hG := zthen hG c_y4_3
        refine lv_iload_n hx hb dX3_priceOf_19 rfl (lv_at hl 1 rfl) ?_
        refine lv_aload_n hx hb dX3_priceOf_20 rfl (lv_at hl 2 rfl) ?_
        refine va_get (D := (dC, dI)) (ci := 3) (v := .ref w0) (C := RX3) (T := TX3) (N := 4) hx hb hts iX3_priceOf_X3 hown hK.1 hP 0 gz0 vcz3 3 (by decide) (kX3_priceOf_1 hts) (fun _ h9 => h9) gz3 dX3_priceOf_21 ?_
        refine va_get (D := (dC, dI)) (ci := 9) (v := .ref torders) (C := RX9) (T := TX9) (N := 10) hx hb hts iX3_priceOf_X9 hown hK.1 hP 1 gz1 vcz9 3 (by decide) (kX3_priceOf_2 hts) (fun _ h9 => h9) gz3 dX3_priceOf_24 ?_
        refine lv_iload_n hx hb dX3_priceOf_27 rfl (lv_at hl 0 rfl) ?_
        refine lv_iconst (v := 3) hx hb dX3_priceOf_28 (by decide) ?_
        refine z_i (wr := [(m0, .inr (3, [.int k_paid, .ref ko, .ref kc, .ref w0])), (w0, .inr (9, [.ref tnodes, .ref tpasses, .ref tjars, .ref torders, .ref tfeasts, .ref tway, .int tws, .int tnow, .int tfm, .int tx]))]) (va_runV (As := [.int l4_0, .int 3]) (rest := [.int l4_1]) ⟨hx, hb, hml, hown, hts⟩ (mX6_get_24 l dC dI kA _ torders tordersA 4 tordersS tordersF l4_0 3) (cwV 2 hts gX3_priceOf_X6_get rfl rfl rfl ⟨rfl, hdX6_get⟩ ⟨(Nat.le_trans (Nat.le_of_ble_eq_true rfl) hRf), (Nat.le_trans (Nat.le_of_ble_eq_true rfl) hRl)⟩) ⟨zPc.blind, va_recv (q := (RX6, TX6, 3)) hK.1 hP (ci := 6) (q0 := 2) rfl rfl, zPre hK (hP.sub [2, 3] rfl) (hD.sub [2, 3] (by decide) rfl)⟩ rfl rfl hl.1 rfl (lv_room (Nat.le_of_ble_eq_true rfl)) dX3_priceOf_29 ⟨hRc, hRs⟩) hP hD hS hA [2, 3] [0, 1] rfl rfl (by decide) (by decide) (fun ry4_7 uy4_5 H locs hwy4_6 hP hD hS => ?_)
        obtain ⟨ery4_10, hpy4_9⟩ := hwy4_6
        have ery4_10 : ry4_7 = uy4_5 := ery4_10
        subst ery4_10
        have ery4_7 : ry4_7 = fX6_get_24 4 tordersF l4_0 3 := hpy4_9
        have hG := zbnd hG ery4_7
        obtain ⟨hP, hD⟩ := z_re (L := [(m0, .inr (3, [.int k_paid, .ref ko, .ref kc, .ref w0])), (w0, .inr (9, [.ref tnodes, .ref tpasses, .ref tjars, .ref torders, .ref tfeasts, .ref tway, .int tws, .int tnow, .int tfm, .int tx])), (torders, .inr (6, [.int 4, .ref tordersA, .int tordersS])), (tordersA, .inl (kA 0, 24, .inl tordersF))]) hP hD
        refine lv_iadd hx hb dX3_priceOf_32 ?_
        refine lv_topi (fun xy4_12 exy4_12 => ?_)
        have hG := zbnd hG exy4_12
        refine lv_istore_n (lv' := [(2, .int xy4_12), (3, .int l4_0), (0, .ref m0), (1, .int p0)]) hx hb dX3_priceOf_33 rfl hl (by decide) rfl (fun ls hl => ?_)
        obtain ⟨xy4_13, exy4_13⟩ : ∃ y : Int32, y = l4_0 + 1 := ⟨_, rfl⟩
        have hG := zbnd hG exy4_13
        refine lv_iinc (v := xy4_13) (lv' := [(3, .int xy4_13), (2, .int xy4_12), (0, .ref m0), (1, .int p0)]) hx hb dX3_priceOf_34 hl (k := 1) rfl (by rw [exy4_13]; rfl) (by decide) rfl (fun ls hl => ?_)
        refine lv_goto (tgt := 4) hx hb dX3_priceOf_37 (by decide) ?_
        exact ih xy4_13 xy4_12 H locs ls (z_up hn exy4_13 c_y4_1) hG (z_nn exy4_13 c_y4_1 hi4) (hP.sub [0, 1, 2, 3] rfl) (hD.sub [0, 1, 2, 3] (by decide) rfl) hS (lv_sub hl [0, 1, 2, 3] rfl)
set_option maxRecDepth 100000 in
def fX3_priceOf (tordersF : Nat → Int32) (p0 : Int32) : Int32 := fl_mX3_priceOf_4 tordersF p0 (fun (w40_0_0 : Int32) (w40_1_0 : Int32) => w40_1_0) (((6 : Int32).toInt - (0 : Int32).toInt).toNat + 1) 0 0
set_option maxHeartbeats 4000000 in
set_option maxRecDepth 100000 in
theorem mX3_priceOf (l : Launch) (dC : Nat → ClassId) (dI : Nat → Nat → Nat) (kA : Nat → ClassId) (sz : Nat) (m0 : Nat) (k_paid : Int32) (ko : Nat) (kc : Nat) (w0 : Nat) (tnodes : Nat) (tpasses : Nat) (tjars : Nat) (torders : Nat) (tordersA : Nat) (tordersS : Int32) (tordersF : Nat → Int32) (tfeasts : Nat) (tway : Nat) (tws : Int32) (tnow : Int32) (tfm : Int32) (tx : Int32) (p0 : Int32)  : Met l yX3_priceOf wsX3_priceOf ({ frames := 1, cells := 0, slots := 0, locals := 23 }) (zPc dC dI kA sz [.ref m0, .int p0] [(m0, .inr (3, [.int k_paid, .ref ko, .ref kc, .ref w0])), (w0, .inr (9, [.ref tnodes, .ref tpasses, .ref tjars, .ref torders, .ref tfeasts, .ref tway, .int tws, .int tnow, .int tfm, .int tx])), (torders, .inr (6, [.int 4, .ref tordersA, .int tordersS])), (tordersA, .inl (kA 0, 24, .inl tordersF))]) (va_Qi (fun (r : Int32) (u : Int32) => r = u ∧ u = fX3_priceOf tordersF p0) (zB dC dI (va_A [(m0, .inr (3, [.int k_paid, .ref ko, .ref kc, .ref w0])), (w0, .inr (9, [.ref tnodes, .ref tpasses, .ref tjars, .ref torders, .ref tfeasts, .ref tway, .int tws, .int tnow, .int tfm, .int tx])), (torders, .inr (6, [.int 4, .ref tordersA, .int tordersS])), (tordersA, .inl (kA 0, 24, .inl tordersF))] sz) (fun (u : Int32) => [(m0, .inr (3, [.int k_paid, .ref ko, .ref kc, .ref w0])), (w0, .inr (9, [.ref tnodes, .ref tpasses, .ref tjars, .ref torders, .ref tfeasts, .ref tway, .int tws, .int tnow, .int tfm, .int tx])), (torders, .inr (6, [.int 4, .ref tordersA, .int tordersS])), (tordersA, .inl (kA 0, 24, .inl tordersF))])) (va_A [(m0, .inr (3, [.int k_paid, .ref ko, .ref kc, .ref w0])), (w0, .inr (9, [.ref tnodes, .ref tpasses, .ref tjars, .ref torders, .ref tfeasts, .ref tway, .int tws, .int tnow, .int tfm, .int tx])), (torders, .inr (6, [.int 4, .ref tordersA, .int tordersS])), (tordersA, .inl (kA 0, 24, .inl tordersF))] sz)) 0 0 (va_A [(m0, .inr (3, [.int k_paid, .ref ko, .ref kc, .ref w0])), (w0, .inr (9, [.ref tnodes, .ref tpasses, .ref tjars, .ref torders, .ref tfeasts, .ref tway, .int tws, .int tnow, .int tfm, .int tx])), (torders, .inr (6, [.int 4, .ref tordersA, .int tordersS])), (tordersA, .inl (kA 0, 24, .inl tordersF))] sz) := by
  refine Met.ofW (cc := cX3_priceOf) (maxL := 4) (ret := (some .int)) pnX3 rfl ?_
  intro p e s m args below meth c s₁ B hml hv
  obtain ⟨rfl, hsz, hP, hK, hD0⟩ := hv
  have hx := B.exec
  have hb := B.bytes
  have hr := B.returns
  have hts := atoms_spec (ws := wsX3_priceOf) B.pre
  have hown : s.vm.findClass RX3 = some m.cls := findClass_of_methodNamed B.named
  have hlocks := B.notSynchronized
  subst hsz
  have hD := hD0.self (sz := s.heap.size)
  generalize hAe : va_A [(m0, .inr (3, [.int k_paid, .ref ko, .ref kc, .ref w0])), (w0, .inr (9, [.ref tnodes, .ref tpasses, .ref tjars, .ref torders, .ref tfeasts, .ref tway, .int tws, .int tnow, .int tfm, .int tx])), (torders, .inr (6, [.int 4, .ref tordersA, .int tordersS])), (tordersA, .inl (kA 0, 24, .inl tordersF))] s.heap.size = A at hD ⊢
  have hA : ∀ q : Nat, s.heap.size ≤ q → A q := zA_of hAe
  have hS : va_S A s.heap s.heap [] := va_S.rf
  have hP : va_P (dC, dI) vwCl [(m0, .inr (3, [.int k_paid, .ref ko, .ref kc, .ref w0])), (w0, .inr (9, [.ref tnodes, .ref tpasses, .ref tjars, .ref torders, .ref tfeasts, .ref tway, .int tws, .int tnow, .int tfm, .int tx])), (torders, .inr (6, [.int 4, .ref tordersA, .int tordersS])), (tordersA, .inl (kA 0, 24, .inl tordersF))] s.heap := hP
  have hl := lv_entry ([.ref m0, .int p0]) (n := 4) (Nat.le_of_ble_eq_true rfl)
  rw [lg_entry_eq]
  generalize (lg_sl ([.ref m0, .int p0]) ++ List.replicate (4 - (lg_sl ([.ref m0, .int p0])).length) Slot.unset).toArray = ls at hl ⊢
  have hl : lv_has ls 4 [(0, .ref m0), (1, .int p0)] := hl
  obtain ⟨H, hHe⟩ : ∃ H : Heap, H = s.heap := ⟨_, rfl⟩
  obtain ⟨G, hG0⟩ : ∃ G : Int32, fX3_priceOf tordersF p0 = G := ⟨_, rfl⟩
  have hG := hG0
  unfold fX3_priceOf at hG
  refine lv_iconst (v := 0) hx hb dX3_priceOf_0 (by decide) ?_
  refine lv_istore_n (lv' := [(2, .int 0), (0, .ref m0), (1, .int p0)]) hx hb dX3_priceOf_1 rfl hl (by decide) rfl (fun ls hl => ?_)
  refine lv_iconst (v := 0) hx hb dX3_priceOf_2 (by decide) ?_
  refine lv_istore_n (lv' := [(3, .int 0), (2, .int 0), (0, .ref m0), (1, .int p0)]) hx hb dX3_priceOf_3 rfl hl (by decide) rfl (fun ls hl => ?_)
  refine lp_mX3_priceOf_4 hx hb hml hts hown hK hA (Nat.le_of_ble_eq_true rfl) (Nat.le_of_ble_eq_true rfl) (Nat.le_of_ble_eq_true rfl) (Nat.le_of_ble_eq_true rfl) m0 k_paid ko kc w0 tnodes tpasses tjars torders tordersA tordersS tordersF tfeasts tway tws tnow tfm tx p0  (fun w40_0_0 w40_1_0 H locs ls hx40_3_nlt00_0 hG hP hD hS hl => ?_) _ 0 0 _ _ ls (Nat.lt_succ_self _) hG (by decide) hP hD hS (lv_sub hl [0, 1, 2, 3] rfl)
  obtain ⟨hP, hD⟩ := z_re (L := [(m0, .inr (3, [.int k_paid, .ref ko, .ref kc, .ref w0])), (w0, .inr (9, [.ref tnodes, .ref tpasses, .ref tjars, .ref torders, .ref tfeasts, .ref tway, .int tws, .int tnow, .int tfm, .int tx])), (torders, .inr (6, [.int 4, .ref tordersA, .int tordersS])), (tordersA, .inl (kA 0, 24, .inl tordersF))]) hP hD
  refine lv_iload_n hx hb dX3_priceOf_40 rfl (lv_at hl 1 rfl) ?_
  obtain ⟨hP9, hD9⟩ := z_sb (L' := [(m0, .inr (3, [.int k_paid, .ref ko, .ref kc, .ref w0])), (w0, .inr (9, [.ref tnodes, .ref tpasses, .ref tjars, .ref torders, .ref tfeasts, .ref tway, .int tws, .int tnow, .int tfm, .int tx])), (torders, .inr (6, [.int 4, .ref tordersA, .int tordersS])), (tordersA, .inl (kA 0, 24, .inl tordersF))]) hP hD [0, 1, 2, 3] (by decide) rfl
  refine W.widen (k := 0) (n := 0) (Nat.le_of_ble_eq_true rfl) (Nat.le_of_ble_eq_true rfl) ?_
  exact W.iret (v := w40_1_0) hx hb hr (fun t ht hW => ⟨⟨w40_1_0, (w40_1_0), rfl, ⟨rfl, (hG.trans hG0.symm)⟩, by rw [ht]; exact hP9, hD9⟩, hS.F ht⟩) hS.2.2 dX3_priceOf_41
set_option maxRecDepth 100000 in
def fJ6_bitCount_0f7a4 (p0 : Int32) : Int32 := bnd ((((p0 : Int32).toUInt32 >>> ((1 : Int32).toUInt32 &&& Int32.toUInt32 31)).toInt32)) (fun (x1 : Int32) => bnd ((p0 - (x1 &&& 1431655765))) (fun (x2 : Int32) => bnd ((((x2 : Int32).toUInt32 >>> ((2 : Int32).toUInt32 &&& Int32.toUInt32 31)).toInt32)) (fun (x3 : Int32) => bnd (((x2 &&& 858993459) + (x3 &&& 858993459))) (fun (x4 : Int32) => bnd ((((x4 : Int32).toUInt32 >>> ((4 : Int32).toUInt32 &&& Int32.toUInt32 31)).toInt32)) (fun (x5 : Int32) => bnd (((x4 + x5) &&& 252645135)) (fun (x6 : Int32) => bnd ((((x6 : Int32).toUInt32 >>> ((8 : Int32).toUInt32 &&& Int32.toUInt32 31)).toInt32)) (fun (x7 : Int32) => bnd ((x6 + x7)) (fun (x8 : Int32) => bnd ((((x8 : Int32).toUInt32 >>> ((16 : Int32).toUInt32 &&& Int32.toUInt32 31)).toInt32)) (fun (x9 : Int32) => bnd ((x8 + x9)) (fun (x10 : Int32) => (x10 &&& 63)))))))))))
set_option maxHeartbeats 4000000 in
set_option maxRecDepth 100000 in
theorem mJ6_bitCount_0f7a4 (l : Launch) (dC : Nat → ClassId) (dI : Nat → Nat → Nat) (kA : Nat → ClassId) (sz : Nat) (p0 : Int32)  : Met l yJ6_bitCount_0f7a4 wsJ6_bitCount_0f7a4 ({ frames := 0, cells := 0, slots := 0, locals := 0 }) (zPc dC dI kA sz [.int p0] []) (va_Qi (fun (r : Int32) (u : Int32) => r = u ∧ u = fJ6_bitCount_0f7a4 p0) (zB dC dI (va_A [] sz) (fun (u : Int32) => [])) (va_A [] sz)) 0 0 (va_A [] sz) := by
  refine Met.ofW (cc := cJ6_bitCount_0f7a4) (maxL := 1) (ret := (some .int)) (by decide) rfl ?_
  intro p e s m args below meth c s₁ B hml hv
  obtain ⟨rfl, hsz, hP, hK, hD0⟩ := hv
  have hx := B.exec
  have hb := B.bytes
  have hr := B.returns
  have hts := atoms_spec (ws := wsJ6_bitCount_0f7a4) B.pre
  have hown : s.vm.findClass RJ6 = some m.cls := findClass_of_methodNamed B.named
  have hlocks := B.notSynchronized
  subst hsz
  have hD := hD0.self (sz := s.heap.size)
  generalize hAe : va_A [] s.heap.size = A at hD ⊢
  have hA : ∀ q : Nat, s.heap.size ≤ q → A q := zA_of hAe
  have hS : va_S A s.heap s.heap [] := va_S.rf
  have hP : va_P (dC, dI) vwCl [] s.heap := hP
  have hl := lv_entry ([.int p0]) (n := 1) (Nat.le_of_ble_eq_true rfl)
  rw [lg_entry_eq]
  generalize (lg_sl ([.int p0]) ++ List.replicate (1 - (lg_sl ([.int p0])).length) Slot.unset).toArray = ls at hl ⊢
  have hl : lv_has ls 1 [(0, .int p0)] := hl
  obtain ⟨G, hG0⟩ : ∃ G : Int32, fJ6_bitCount_0f7a4 p0 = G := ⟨_, rfl⟩
  have hG := hG0
  unfold fJ6_bitCount_0f7a4 at hG
  refine lv_iload_n hx hb dJ6_bitCount_0f7a4_0 rfl (lv_at hl 0 rfl) ?_
  refine lv_iload_n hx hb dJ6_bitCount_0f7a4_1 rfl (lv_at hl 0 rfl) ?_
  refine lv_iconst (v := 1) hx hb dJ6_bitCount_0f7a4_2 (by decide) ?_
  refine lv_iushr hx hb dJ6_bitCount_0f7a4_3 rfl ?_
  refine lv_topi (fun x1 ex1 => ?_)
  have hG := zbnd hG ex1
  refine lv_ldcw hx hb hown (kJ6_bitCount_0f7a4_1 hts) dJ6_bitCount_0f7a4_4 ?_
  refine lv_iand hx hb dJ6_bitCount_0f7a4_7 ?_
  refine lv_isub hx hb dJ6_bitCount_0f7a4_8 ?_
  refine lv_topi (fun x2 ex2 => ?_)
  have hG := zbnd hG ex2
  refine lv_istore_n (lv' := [(0, .int x2)]) hx hb dJ6_bitCount_0f7a4_9 rfl hl (by decide) rfl (fun ls hl => ?_)
  refine lv_iload_n hx hb dJ6_bitCount_0f7a4_10 rfl (lv_at hl 0 rfl) ?_
  refine lv_ldcw hx hb hown (kJ6_bitCount_0f7a4_2 hts) dJ6_bitCount_0f7a4_11 ?_
  refine lv_iand hx hb dJ6_bitCount_0f7a4_14 ?_
  refine lv_iload_n hx hb dJ6_bitCount_0f7a4_15 rfl (lv_at hl 0 rfl) ?_
  refine lv_iconst (v := 2) hx hb dJ6_bitCount_0f7a4_16 (by decide) ?_
  refine lv_iushr hx hb dJ6_bitCount_0f7a4_17 rfl ?_
  refine lv_topi (fun x3 ex3 => ?_)
  have hG := zbnd hG ex3
  refine lv_ldcw hx hb hown (kJ6_bitCount_0f7a4_2 hts) dJ6_bitCount_0f7a4_18 ?_
  refine lv_iand hx hb dJ6_bitCount_0f7a4_21 ?_
  refine lv_iadd hx hb dJ6_bitCount_0f7a4_22 ?_
  refine lv_topi (fun x4 ex4 => ?_)
  have hG := zbnd hG ex4
  refine lv_istore_n (lv' := [(0, .int x4)]) hx hb dJ6_bitCount_0f7a4_23 rfl hl (by decide) rfl (fun ls hl => ?_)
  refine lv_iload_n hx hb dJ6_bitCount_0f7a4_24 rfl (lv_at hl 0 rfl) ?_
  refine lv_iload_n hx hb dJ6_bitCount_0f7a4_25 rfl (lv_at hl 0 rfl) ?_
  refine lv_iconst (v := 4) hx hb dJ6_bitCount_0f7a4_26 (by decide) ?_
  refine lv_iushr hx hb dJ6_bitCount_0f7a4_27 rfl ?_
  refine lv_topi (fun x5 ex5 => ?_)
  have hG := zbnd hG ex5
  refine lv_iadd hx hb dJ6_bitCount_0f7a4_28 ?_
  refine lv_ldcw hx hb hown (kJ6_bitCount_0f7a4_3 hts) dJ6_bitCount_0f7a4_29 ?_
  refine lv_iand hx hb dJ6_bitCount_0f7a4_32 ?_
  refine lv_topi (fun x6 ex6 => ?_)
  have hG := zbnd hG ex6
  refine lv_istore_n (lv' := [(0, .int x6)]) hx hb dJ6_bitCount_0f7a4_33 rfl hl (by decide) rfl (fun ls hl => ?_)
  refine lv_iload_n hx hb dJ6_bitCount_0f7a4_34 rfl (lv_at hl 0 rfl) ?_
  refine lv_iload_n hx hb dJ6_bitCount_0f7a4_35 rfl (lv_at hl 0 rfl) ?_
  refine lv_bipush (v := 8) hx hb dJ6_bitCount_0f7a4_36 (by decide) ?_
  refine lv_iushr hx hb dJ6_bitCount_0f7a4_38 rfl ?_
  refine lv_topi (fun x7 ex7 => ?_)
  have hG := zbnd hG ex7
  refine lv_iadd hx hb dJ6_bitCount_0f7a4_39 ?_
  refine lv_topi (fun x8 ex8 => ?_)
  have hG := zbnd hG ex8
  refine lv_istore_n (lv' := [(0, .int x8)]) hx hb dJ6_bitCount_0f7a4_40 rfl hl (by decide) rfl (fun ls hl => ?_)
  refine lv_iload_n hx hb dJ6_bitCount_0f7a4_41 rfl (lv_at hl 0 rfl) ?_
  refine lv_iload_n hx hb dJ6_bitCount_0f7a4_42 rfl (lv_at hl 0 rfl) ?_
  refine lv_bipush (v := 16) hx hb dJ6_bitCount_0f7a4_43 (by decide) ?_
  refine lv_iushr hx hb dJ6_bitCount_0f7a4_45 rfl ?_
  refine lv_topi (fun x9 ex9 => ?_)
  have hG := zbnd hG ex9
  refine lv_iadd hx hb dJ6_bitCount_0f7a4_46 ?_
  refine lv_topi (fun x10 ex10 => ?_)
  have hG := zbnd hG ex10
  refine lv_istore_n (lv' := [(0, .int x10)]) hx hb dJ6_bitCount_0f7a4_47 rfl hl (by decide) rfl (fun ls hl => ?_)
  refine lv_iload_n hx hb dJ6_bitCount_0f7a4_48 rfl (lv_at hl 0 rfl) ?_
  refine lv_bipush (v := 63) hx hb dJ6_bitCount_0f7a4_49 (by decide) ?_
  refine lv_iand hx hb dJ6_bitCount_0f7a4_51 ?_
  obtain ⟨hP9, hD9⟩ := z_sb (L' := []) hP hD [] (by decide) rfl
  refine W.widen (k := 0) (n := 0) (Nat.le_of_ble_eq_true rfl) (Nat.le_of_ble_eq_true rfl) ?_
  exact W.iret (v := (x10 &&& 63)) hx hb hr (fun t ht hW => ⟨⟨(x10 &&& 63), ((x10 &&& 63)), rfl, ⟨rfl, (hG.trans hG0.symm)⟩, by rw [ht]; exact hP9, hD9⟩, hS.F ht⟩) hS.2.2 dJ6_bitCount_0f7a4_52
set_option maxRecDepth 100000 in
def fb_mX3_canServe_12 (koF : Nat → Int32) (l2_0 : Int32) (E47 : Int32 → Int32 → Int32) (K : Int32 → Int32 → Int32) (l12_0 : Int32) (l12_1 : Int32) : Int32 := if 6 ≤ l12_0 then (E47 l12_0 l12_1) else (bnd ((l2_0 >>> (l12_0 &&& 31))) (fun (xy12_2 : Int32) => if (xy12_2 &&& 1) = 1 then (bnd (koF l12_0.toNatClampNeg) (fun (xy12_5 : Int32) => bnd ((l12_1 ||| xy12_5)) (fun (xy12_6 : Int32) => bnd ((l12_0 + 1)) (fun (xy12_7 : Int32) => K xy12_7 xy12_6)))) else (bnd ((l12_0 + 1)) (fun (xy12_4 : Int32) => K xy12_4 l12_1))))
def fl_mX3_canServe_12 (koF : Nat → Int32) (l2_0 : Int32) (E47 : Int32 → Int32 → Int32) : Nat → Int32 → Int32 → Int32
  | 0, _, _ => 0
  | n + 1, l12_0, l12_1 => fb_mX3_canServe_12 koF l2_0 E47 (fl_mX3_canServe_12 koF l2_0 E47 n) l12_0 l12_1
set_option maxHeartbeats 4000000 in
set_option maxRecDepth 100000 in
theorem lp_mX3_canServe_12 {p : Program} {l : Launch} {e : Env} {R : Room} {s : State} {m : MethodId} {args : Array Value} {below : List Frame} {meth : Method} {c : Code} {Q : State → Prop} {dC : Nat → ClassId} {dI : Nat → Nat → Nat} {kA : Nat → ClassId} {A : Nat → Prop} {H0 : Heap} {cells slots : Nat} (hx : p.tables.exec = Jvm.exec) (hb : c.code = cX3_canServe) (hml : c.maxLocals = 6) (hts : ∀ w ∈ wsX3_canServe, w.before args s = true) (hown : s.vm.findClass RX3 = some m.cls) (hK : zK dC dI kA s) (hA : ∀ q, H0.size ≤ q → A q) (hRf : 0 ≤ R.frames) (hRl : 0 ≤ R.locals) (hRc : cells ≤ R.cells) (hRs : slots ≤ R.slots) (m0 : Nat) (k_paid : Int32) (ko : Nat) (kc : Nat) (koF : Nat → Int32) (w0 : Nat) (p0 : Int32) (p1 : Int32) (l2_0 : Int32) {G : Int32} {E47 : Int32 → Int32 → Int32} (c_y2_1 : ¬ l2_0 ≤ 0) (k47 : ∀ (w47_0 : Int32) (w47_1 : Int32) (H : Heap) (locs : List Loc) (ls : Array Slot), ¬ w47_0 < 0 → E47 w47_0 w47_1 = G → va_P (dC, dI) vwCl [(m0, .inr (3, [.int k_paid, .ref ko, .ref kc, .ref w0])), (ko, .inl (kA 0, 6, .inl koF))] H → va_D A [(m0, .inr (3, [.int k_paid, .ref ko, .ref kc, .ref w0])), (ko, .inl (kA 0, 6, .inl koF))] → va_S A H0 H locs → lv_has ls 6 [(5, .int w47_0), (4, .int w47_1), (3, .int l2_0), (0, .ref m0), (1, .int p0), (2, .int p1)] → W p l e R s m args below meth c H locs cells slots Q (F0 m 47 ls []))  : ∀ (n : Nat) (l12_0 : Int32) (l12_1 : Int32) (H : Heap) (locs : List Loc) (ls : Array Slot), ((6 : Int32).toInt - l12_0.toInt).toNat < n → fl_mX3_canServe_12 koF l2_0 E47 n l12_0 l12_1 = G → ¬ l12_0 < 0 → va_P (dC, dI) vwCl [(m0, .inr (3, [.int k_paid, .ref ko, .ref kc, .ref w0])), (ko, .inl (kA 0, 6, .inl koF))] H → va_D A [(m0, .inr (3, [.int k_paid, .ref ko, .ref kc, .ref w0])), (ko, .inl (kA 0, 6, .inl koF))] → va_S A H0 H locs → lv_has ls 6 [(5, .int l12_0), (4, .int l12_1), (3, .int l2_0), (0, .ref m0), (1, .int p0), (2, .int p1)] → W p l e R s m args below meth c H locs cells slots Q (F0 m 12 ls []) := by
  intro n
  induction n with
  | zero =>
    intro l12_0 l12_1 H locs ls hn
    exact absurd hn (Nat.not_lt_zero _)
  | succ n ih =>
    intro l12_0 l12_1 H locs ls hn hG hi12 hP hD hS hl
    have hG : fb_mX3_canServe_12 koF l2_0 E47 (fl_mX3_canServe_12 koF l2_0 E47 n) l12_0 l12_1 = G := hG
    unfold fb_mX3_canServe_12 at hG
    refine lv_iload hx hb dX3_canServe_12 (lv_at hl 0 rfl) ?_
    refine lv_bipush (v := 6) hx hb dX3_canServe_14 (by decide) ?_
    refine lv_icmp_ge (tgt := 47) hx hb dX3_canServe_16 (by decide) (fun c_y12_1 => ?_) (fun c_y12_1 => ?_)
    · have hG := zthen hG c_y12_1
      exact k47 l12_0 l12_1 H locs ls hi12 hG (hP.sub [0, 1] rfl) (hD.sub [0, 1] (by decide) rfl) hS (lv_sub hl [0, 1, 2, 3, 4, 5] rfl)
    · have hG := zelse hG c_y12_1
      refine lv_iload_n hx hb dX3_canServe_19 rfl (lv_at hl 2 rfl) ?_
      refine lv_iload hx hb dX3_canServe_20 (lv_at hl 0 rfl) ?_
      refine lv_ishr hx hb dX3_canServe_22 ?_
      refine lv_topi (fun xy12_2 exy12_2 => ?_)
      have hG := zbnd hG exy12_2
      refine lv_iconst (v := 1) hx hb dX3_canServe_23 (by decide) ?_
      refine lv_iand hx hb dX3_canServe_24 ?_
      refine lv_iconst (v := 1) hx hb dX3_canServe_25 (by decide) ?_
      refine lv_icmp_ne (tgt := 41) hx hb dX3_canServe_26 (by decide) (fun c_y12_3 => ?_) (fun c_y12_3 => ?_)
      · have hG := zelse hG c_y12_3
        obtain ⟨xy12_4, exy12_4⟩ : ∃ y : Int32, y = l12_0 + 1 := ⟨_, rfl⟩
        have hG := zbnd hG exy12_4
        refine lv_iinc (v := xy12_4) (lv' := [(5, .int xy12_4), (4, .int l12_1), (3, .int l2_0), (0, .ref m0), (1, .int p0), (2, .int p1)]) hx hb dX3_canServe_41 hl (k := 0) rfl (by rw [exy12_4]; rfl) (by decide) rfl (fun ls hl => ?_)
        refine lv_goto (tgt := 12) hx hb dX3_canServe_44 (by decide) ?_
        exact ih xy12_4 l12_1 H locs ls (z_up hn exy12_4 c_y12_1) hG (z_nn exy12_4 c_y12_1 hi12) (hP.sub [0, 1] rfl) (hD.sub [0, 1] (by decide) rfl) hS (lv_sub hl [0, 1, 2, 3, 4, 5] rfl)
      · have hG := zthen hG c_y12_3
        refine lv_iload hx hb dX3_canServe_29 (lv_at hl 1 rfl) ?_
        refine lv_aload_n hx hb dX3_canServe_31 rfl (lv_at hl 3 rfl) ?_
        refine va_get (D := (dC, dI)) (ci := 3) (v := .ref ko) (C := RX3) (T := TX3) (N := 4) hx hb hts iX3_canServe_X3 hown hK.1 hP 0 gz0 vcz3 1 (by decide) (kX3_canServe_1 hts) (fun _ h9 => h9) gz1 dX3_canServe_32 ?_
        refine lv_iload hx hb dX3_canServe_35 (lv_at hl 0 rfl) ?_
        refine va_iald hx hb hK.1 hP 1 0 gz1 tzz0 (vp_lt (by decide) hi12 c_y12_1) dX3_canServe_37 ?_
        refine lv_topi (fun xy12_5 exy12_5 => ?_)
        have hG := zbnd hG exy12_5
        refine lv_ior hx hb dX3_canServe_38 ?_
        refine lv_topi (fun xy12_6 exy12_6 => ?_)
        have hG := zbnd hG exy12_6
        refine lv_istore (lv' := [(4, .int xy12_6), (5, .int l12_0), (3, .int l2_0), (0, .ref m0), (1, .int p0), (2, .int p1)]) hx hb dX3_canServe_39 hl (by decide) rfl (fun ls hl => ?_)
        obtain ⟨xy12_7, exy12_7⟩ : ∃ y : Int32, y = l12_0 + 1 := ⟨_, rfl⟩
        have hG := zbnd hG exy12_7
        refine lv_iinc (v := xy12_7) (lv' := [(5, .int xy12_7), (4, .int xy12_6), (3, .int l2_0), (0, .ref m0), (1, .int p0), (2, .int p1)]) hx hb dX3_canServe_41 hl (k := 1) rfl (by rw [exy12_7]; rfl) (by decide) rfl (fun ls hl => ?_)
        refine lv_goto (tgt := 12) hx hb dX3_canServe_44 (by decide) ?_
        exact ih xy12_7 xy12_6 H locs ls (z_up hn exy12_7 c_y12_1) hG (z_nn exy12_7 c_y12_1 hi12) (hP.sub [0, 1] rfl) (hD.sub [0, 1] (by decide) rfl) hS (lv_sub hl [0, 1, 2, 3, 4, 5] rfl)
set_option maxRecDepth 100000 in
def fb_mX3_canServe_2 (koF : Nat → Int32) (p0 : Int32) (p1 : Int32) (E63 : Int32 → Int32 → Int32 → Int32) (E74 : Int32 → Int32) (K : Int32 → Int32) (l2_0 : Int32) : Int32 := if l2_0 ≤ 0 then (E74 l2_0) else (fl_mX3_canServe_12 koF l2_0 (fun (w47_0_y2_0 : Int32) (w47_1_y2_0 : Int32) => bnd (fJ6_bitCount_0f7a4 (w47_1_y2_0 &&& (p1 ^^^ (-1)))) (fun (ry2_4 : Int32) => bnd (fJ6_bitCount_0f7a4 l2_0) (fun (ry2_11 : Int32) => if ry2_11 ≤ ry2_4 then (bnd (((l2_0 - 1) &&& p0)) (fun (xy2_17 : Int32) => K xy2_17)) else (E63 l2_0 w47_1_y2_0 w47_0_y2_0)))) (((6 : Int32).toInt - (0 : Int32).toInt).toNat + 1) 0 0)
def fl_mX3_canServe_2 (koF : Nat → Int32) (p0 : Int32) (p1 : Int32) (E63 : Int32 → Int32 → Int32 → Int32) (E74 : Int32 → Int32) : Nat → Int32 → Int32
  | 0, _ => 0
  | n + 1, l2_0 => fb_mX3_canServe_2 koF p0 p1 E63 E74 (fl_mX3_canServe_2 koF p0 p1 E63 E74 n) l2_0
set_option maxHeartbeats 4000000 in
set_option maxRecDepth 100000 in
theorem lp_mX3_canServe_2 {p : Program} {l : Launch} {e : Env} {R : Room} {s : State} {m : MethodId} {args : Array Value} {below : List Frame} {meth : Method} {c : Code} {Q : State → Prop} {dC : Nat → ClassId} {dI : Nat → Nat → Nat} {kA : Nat → ClassId} {A : Nat → Prop} {H0 : Heap} {cells slots : Nat} (hx : p.tables.exec = Jvm.exec) (hb : c.code = cX3_canServe) (hml : c.maxLocals = 6) (hts : ∀ w ∈ wsX3_canServe, w.before args s = true) (hown : s.vm.findClass RX3 = some m.cls) (hK : zK dC dI kA s) (hA : ∀ q, H0.size ≤ q → A q) (hRf : 1 ≤ R.frames) (hRl : 20 ≤ R.locals) (hRc : cells ≤ R.cells) (hRs : slots ≤ R.slots) (m0 : Nat) (k_paid : Int32) (ko : Nat) (kc : Nat) (koF : Nat → Int32) (w0 : Nat) (p0 : Int32) (p1 : Int32) {G : Int32} {E63 : Int32 → Int32 → Int32 → Int32} {E74 : Int32 → Int32}  (k63 : ∀ (w63_0 : Int32) (w63_1 : Int32) (w63_2 : Int32) (H : Heap) (locs : List Loc) (ls : Array Slot), ¬ w63_2 < 0 → E63 w63_0 w63_1 w63_2 = G → va_P (dC, dI) vwCl [(m0, .inr (3, [.int k_paid, .ref ko, .ref kc, .ref w0])), (ko, .inl (kA 0, 6, .inl koF))] H → va_D A [(m0, .inr (3, [.int k_paid, .ref ko, .ref kc, .ref w0])), (ko, .inl (kA 0, 6, .inl koF))] → va_S A H0 H locs → lv_has ls 6 [(3, .int w63_0), (0, .ref m0), (1, .int p0), (2, .int p1), (4, .int w63_1), (5, .int w63_2)] → W p l e R s m args below meth c H locs cells slots Q (F0 m 63 ls [])) (k74 : ∀ (w74_0 : Int32) (H : Heap) (locs : List Loc) (ls : Array Slot), E74 w74_0 = G → va_P (dC, dI) vwCl [(m0, .inr (3, [.int k_paid, .ref ko, .ref kc, .ref w0])), (ko, .inl (kA 0, 6, .inl koF))] H → va_D A [(m0, .inr (3, [.int k_paid, .ref ko, .ref kc, .ref w0])), (ko, .inl (kA 0, 6, .inl koF))] → va_S A H0 H locs → lv_has ls 6 [(3, .int w74_0), (0, .ref m0), (1, .int p0), (2, .int p1)] → W p l e R s m args below meth c H locs cells slots Q (F0 m 74 ls []))  : ∀ (n : Nat) (l2_0 : Int32) (H : Heap) (locs : List Loc) (ls : Array Slot), l2_0.toInt.toNat < n → fl_mX3_canServe_2 koF p0 p1 E63 E74 n l2_0 = G → va_P (dC, dI) vwCl [(m0, .inr (3, [.int k_paid, .ref ko, .ref kc, .ref w0])), (ko, .inl (kA 0, 6, .inl koF))] H → va_D A [(m0, .inr (3, [.int k_paid, .ref ko, .ref kc, .ref w0])), (ko, .inl (kA 0, 6, .inl koF))] → va_S A H0 H locs → lv_has ls 6 [(3, .int l2_0), (0, .ref m0), (1, .int p0), (2, .int p1)] → W p l e R s m args below meth c H locs cells slots Q (F0 m 2 ls []) := by
  intro n
  induction n with
  | zero =>
    intro l2_0 H locs ls hn
    exact absurd hn (Nat.not_lt_zero _)
  | succ n ih =>
    intro l2_0 H locs ls hn hG  hP hD hS hl
    have hG : fb_mX3_canServe_2 koF p0 p1 E63 E74 (fl_mX3_canServe_2 koF p0 p1 E63 E74 n) l2_0 = G := hG
    unfold fb_mX3_canServe_2 at hG
    refine lv_iload_n hx hb dX3_canServe_2 rfl (lv_at hl 0 rfl) ?_
    refine lv_if_le (tgt := 74) hx hb dX3_canServe_3 (by decide) (fun c_y2_1 => ?_) (fun c_y2_1 => ?_)
    · have hG := zthen hG c_y2_1
      exact k74 l2_0 H locs ls hG (hP.sub [0, 1] rfl) (hD.sub [0, 1] (by decide) rfl) hS (lv_sub hl [0, 1, 2, 3] rfl)
    · have hG := zelse hG c_y2_1
      refine lv_iconst (v := 0) hx hb dX3_canServe_6 (by decide) ?_
      refine lv_istore (lv' := [(4, .int 0), (3, .int l2_0), (0, .ref m0), (1, .int p0), (2, .int p1)]) hx hb dX3_canServe_7 hl (by decide) rfl (fun ls hl => ?_)
      refine lv_iconst (v := 0) hx hb dX3_canServe_9 (by decide) ?_
      refine lv_istore (lv' := [(5, .int 0), (4, .int 0), (3, .int l2_0), (0, .ref m0), (1, .int p0), (2, .int p1)]) hx hb dX3_canServe_10 hl (by decide) rfl (fun ls hl => ?_)
      refine lp_mX3_canServe_12 hx hb hml hts hown hK hA (Nat.le_trans (Nat.le_of_ble_eq_true rfl) hRf) (Nat.le_trans (Nat.le_of_ble_eq_true rfl) hRl) hRc hRs m0 k_paid ko kc koF w0 p0 p1 l2_0 c_y2_1 (fun w47_0_y2_0 w47_1_y2_0 H locs ls hx47_5_nlt00_y2_0 hG hP hD hS hl => ?_) _ 0 0 _ _ ls (Nat.lt_succ_self _) hG (by decide) hP hD hS (lv_sub hl [0, 1, 2, 3, 4, 5] rfl)
      obtain ⟨hP, hD⟩ := z_re (L := [(m0, .inr (3, [.int k_paid, .ref ko, .ref kc, .ref w0])), (ko, .inl (kA 0, 6, .inl koF))]) hP hD
      refine lv_iload hx hb dX3_canServe_47 (lv_at hl 1 rfl) ?_
      refine lv_iload_n hx hb dX3_canServe_49 rfl (lv_at hl 5 rfl) ?_
      refine lv_iconst (v := (-1)) hx hb dX3_canServe_50 (by decide) ?_
      refine lv_ixor hx hb dX3_canServe_51 ?_
      refine lv_iand hx hb dX3_canServe_52 ?_
      refine z_i (wr := [(m0, .inr (3, [.int k_paid, .ref ko, .ref kc, .ref w0])), (ko, .inl (kA 0, 6, .inl koF))]) (va_runS (As := [.int (w47_1_y2_0 &&& (p1 ^^^ (-1)))]) (rest := []) ⟨hx, hb, hml, hown, hts⟩ (mJ6_bitCount_0f7a4 l dC dI kA _ (w47_1_y2_0 &&& (p1 ^^^ (-1)))) (va_cwS 1 hts gX3_canServe_J6_bitCount_0f7a4 rfl rfl rfl hdJ6_bitCount_0f7a4 ⟨(Nat.le_trans (Nat.le_of_ble_eq_true rfl) hRf), (Nat.le_trans (Nat.le_of_ble_eq_true rfl) hRl)⟩) ⟨zPc.blind, zPre hK (hP.sub [] rfl) (hD.sub [] (by decide) rfl)⟩ rfl rfl hl.1 rfl (lv_room (Nat.le_of_ble_eq_true rfl)) dX3_canServe_53 ⟨hRc, hRs⟩) hP hD hS hA [] [0, 1] rfl rfl (by decide) (by decide) (fun ry2_4 uy2_2 H locs hwy2_3 hP hD hS => ?_)
      obtain ⟨ery2_7, hpy2_6⟩ := hwy2_3
      have ery2_7 : ry2_4 = uy2_2 := ery2_7
      subst ery2_7
      have ery2_4 : ry2_4 = fJ6_bitCount_0f7a4 (w47_1_y2_0 &&& (p1 ^^^ (-1))) := hpy2_6
      have hG := zbnd hG ery2_4
      obtain ⟨hP, hD⟩ := z_re (L := [(m0, .inr (3, [.int k_paid, .ref ko, .ref kc, .ref w0])), (ko, .inl (kA 0, 6, .inl koF))]) hP hD
      refine lv_iload_n hx hb dX3_canServe_56 rfl (lv_at hl 2 rfl) ?_
      refine z_i (wr := [(m0, .inr (3, [.int k_paid, .ref ko, .ref kc, .ref w0])), (ko, .inl (kA 0, 6, .inl koF))]) (va_runS (As := [.int l2_0]) (rest := [.int ry2_4]) ⟨hx, hb, hml, hown, hts⟩ (mJ6_bitCount_0f7a4 l dC dI kA _ l2_0) (va_cwS 1 hts gX3_canServe_J6_bitCount_0f7a4 rfl rfl rfl hdJ6_bitCount_0f7a4 ⟨(Nat.le_trans (Nat.le_of_ble_eq_true rfl) hRf), (Nat.le_trans (Nat.le_of_ble_eq_true rfl) hRl)⟩) ⟨zPc.blind, zPre hK (hP.sub [] rfl) (hD.sub [] (by decide) rfl)⟩ rfl rfl hl.1 rfl (lv_room (Nat.le_of_ble_eq_true rfl)) dX3_canServe_57 ⟨hRc, hRs⟩) hP hD hS hA [] [0, 1] rfl rfl (by decide) (by decide) (fun ry2_11 uy2_9 H locs hwy2_10 hP hD hS => ?_)
      obtain ⟨ery2_14, hpy2_13⟩ := hwy2_10
      have ery2_14 : ry2_11 = uy2_9 := ery2_14
      subst ery2_14
      have ery2_11 : ry2_11 = fJ6_bitCount_0f7a4 l2_0 := hpy2_13
      have hG := zbnd hG ery2_11
      obtain ⟨hP, hD⟩ := z_re (L := [(m0, .inr (3, [.int k_paid, .ref ko, .ref kc, .ref w0])), (ko, .inl (kA 0, 6, .inl koF))]) hP hD
      refine lv_icmp_ge (tgt := 65) hx hb dX3_canServe_60 (by decide) (fun c_y2_16 => ?_) (fun c_y2_16 => ?_)
      · have hG := zthen hG c_y2_16
        refine lv_iload_n hx hb dX3_canServe_65 rfl (lv_at hl 2 rfl) ?_
        refine lv_iconst (v := 1) hx hb dX3_canServe_66 (by decide) ?_
        refine lv_isub hx hb dX3_canServe_67 ?_
        refine lv_iload_n hx hb dX3_canServe_68 rfl (lv_at hl 4 rfl) ?_
        refine lv_iand hx hb dX3_canServe_69 ?_
        refine lv_topi (fun xy2_17 exy2_17 => ?_)
        have hG := zbnd hG exy2_17
        refine lv_istore_n (lv' := [(3, .int xy2_17), (5, .int w47_0_y2_0), (4, .int w47_1_y2_0), (0, .ref m0), (1, .int p0), (2, .int p1)]) hx hb dX3_canServe_70 rfl hl (by decide) rfl (fun ls hl => ?_)
        refine lv_goto (tgt := 2) hx hb dX3_canServe_71 (by decide) ?_
        exact ih xy2_17 H locs ls (z_part hn exy2_17 c_y2_1) hG (hP.sub [0, 1] rfl) (hD.sub [0, 1] (by decide) rfl) hS (lv_sub hl [0, 3, 4, 5] rfl)
      · have hG := zelse hG c_y2_16
        exact k63 l2_0 w47_1_y2_0 w47_0_y2_0 H locs ls hx47_5_nlt00_y2_0 hG (hP.sub [0, 1] rfl) (hD.sub [0, 1] (by decide) rfl) hS (lv_sub hl [2, 3, 4, 5, 1, 0] rfl)
set_option maxRecDepth 100000 in
def fX3_canServe (koF : Nat → Int32) (p0 : Int32) (p1 : Int32) : Int32 := fl_mX3_canServe_2 koF p0 p1 (fun (w63_0_0 : Int32) (w63_1_0 : Int32) (w63_2_0 : Int32) => 0) (fun (w74_0_0 : Int32) => 1) (p0.toInt.toNat + 1) p0
set_option maxHeartbeats 4000000 in
set_option maxRecDepth 100000 in
theorem mX3_canServe (l : Launch) (dC : Nat → ClassId) (dI : Nat → Nat → Nat) (kA : Nat → ClassId) (sz : Nat) (m0 : Nat) (k_paid : Int32) (ko : Nat) (kc : Nat) (koF : Nat → Int32) (w0 : Nat) (p0 : Int32) (p1 : Int32)  : Met l yX3_canServe wsX3_canServe ({ frames := 1, cells := 0, slots := 0, locals := 20 }) (zPc dC dI kA sz [.ref m0, .int p0, .int p1] [(m0, .inr (3, [.int k_paid, .ref ko, .ref kc, .ref w0])), (ko, .inl (kA 0, 6, .inl koF))]) (va_Qi (fun (r : Int32) (u : Int32) => r = u ∧ u = fX3_canServe koF p0 p1 ∧ (u = 0 ∨ u = 1)) (zB dC dI (va_A [(m0, .inr (3, [.int k_paid, .ref ko, .ref kc, .ref w0])), (ko, .inl (kA 0, 6, .inl koF))] sz) (fun (u : Int32) => [(m0, .inr (3, [.int k_paid, .ref ko, .ref kc, .ref w0])), (ko, .inl (kA 0, 6, .inl koF))])) (va_A [(m0, .inr (3, [.int k_paid, .ref ko, .ref kc, .ref w0])), (ko, .inl (kA 0, 6, .inl koF))] sz)) 0 0 (va_A [(m0, .inr (3, [.int k_paid, .ref ko, .ref kc, .ref w0])), (ko, .inl (kA 0, 6, .inl koF))] sz) := by
  refine Met.ofW (cc := cX3_canServe) (maxL := 6) (ret := (some .boolean)) pnX3 rfl ?_
  intro p e s m args below meth c s₁ B hml hv
  obtain ⟨rfl, hsz, hP, hK, hD0⟩ := hv
  have hx := B.exec
  have hb := B.bytes
  have hr := B.returns
  have hts := atoms_spec (ws := wsX3_canServe) B.pre
  have hown : s.vm.findClass RX3 = some m.cls := findClass_of_methodNamed B.named
  have hlocks := B.notSynchronized
  subst hsz
  have hD := hD0.self (sz := s.heap.size)
  generalize hAe : va_A [(m0, .inr (3, [.int k_paid, .ref ko, .ref kc, .ref w0])), (ko, .inl (kA 0, 6, .inl koF))] s.heap.size = A at hD ⊢
  have hA : ∀ q : Nat, s.heap.size ≤ q → A q := zA_of hAe
  have hS : va_S A s.heap s.heap [] := va_S.rf
  have hP : va_P (dC, dI) vwCl [(m0, .inr (3, [.int k_paid, .ref ko, .ref kc, .ref w0])), (ko, .inl (kA 0, 6, .inl koF))] s.heap := hP
  have hl := lv_entry ([.ref m0, .int p0, .int p1]) (n := 6) (Nat.le_of_ble_eq_true rfl)
  rw [lg_entry_eq]
  generalize (lg_sl ([.ref m0, .int p0, .int p1]) ++ List.replicate (6 - (lg_sl ([.ref m0, .int p0, .int p1])).length) Slot.unset).toArray = ls at hl ⊢
  have hl : lv_has ls 6 [(0, .ref m0), (1, .int p0), (2, .int p1)] := hl
  obtain ⟨H, hHe⟩ : ∃ H : Heap, H = s.heap := ⟨_, rfl⟩
  obtain ⟨G, hG0⟩ : ∃ G : Int32, fX3_canServe koF p0 p1 = G := ⟨_, rfl⟩
  have hG := hG0
  unfold fX3_canServe at hG
  refine lv_iload_n hx hb dX3_canServe_0 rfl (lv_at hl 1 rfl) ?_
  refine lv_istore_n (lv' := [(3, .int p0), (0, .ref m0), (1, .int p0), (2, .int p1)]) hx hb dX3_canServe_1 rfl hl (by decide) rfl (fun ls hl => ?_)
  refine lp_mX3_canServe_2 hx hb hml hts hown hK hA (Nat.le_of_ble_eq_true rfl) (Nat.le_of_ble_eq_true rfl) (Nat.le_of_ble_eq_true rfl) (Nat.le_of_ble_eq_true rfl) m0 k_paid ko kc koF w0 p0 p1  (fun w63_0_0 w63_1_0 w63_2_0 H locs ls hx63_5_nlt00_0 hG hP hD hS hl => ?_) (fun w74_0_0 H locs ls hG hP hD hS hl => ?_) _ p0 _ _ ls (Nat.lt_succ_self _) hG hP hD hS (lv_sub hl [0, 1, 2, 3] rfl)
  · obtain ⟨hP, hD⟩ := z_re (L := [(m0, .inr (3, [.int k_paid, .ref ko, .ref kc, .ref w0])), (ko, .inl (kA 0, 6, .inl koF))]) hP hD
    refine lv_iconst (v := 0) hx hb dX3_canServe_63 (by decide) ?_
    obtain ⟨hP9, hD9⟩ := z_sb (L' := [(m0, .inr (3, [.int k_paid, .ref ko, .ref kc, .ref w0])), (ko, .inl (kA 0, 6, .inl koF))]) hP hD [0, 1] (by decide) rfl
    refine W.widen (k := 0) (n := 0) (Nat.le_of_ble_eq_true rfl) (Nat.le_of_ble_eq_true rfl) ?_
    exact W.zret (v := 0) hx hb hr rfl (fun t ht hW => ⟨⟨0, (0), rfl, ⟨rfl, (hG.trans hG0.symm), (Or.inl rfl)⟩, by rw [ht]; exact hP9, hD9⟩, hS.F ht⟩) hS.2.2 dX3_canServe_64
  · obtain ⟨hP, hD⟩ := z_re (L := [(m0, .inr (3, [.int k_paid, .ref ko, .ref kc, .ref w0])), (ko, .inl (kA 0, 6, .inl koF))]) hP hD
    refine lv_iconst (v := 1) hx hb dX3_canServe_74 (by decide) ?_
    obtain ⟨hP9, hD9⟩ := z_sb (L' := [(m0, .inr (3, [.int k_paid, .ref ko, .ref kc, .ref w0])), (ko, .inl (kA 0, 6, .inl koF))]) hP hD [0, 1] (by decide) rfl
    refine W.widen (k := 0) (n := 0) (Nat.le_of_ble_eq_true rfl) (Nat.le_of_ble_eq_true rfl) ?_
    exact W.zret (v := 1) hx hb hr rfl (fun t ht hW => ⟨⟨1, (1), rfl, ⟨rfl, (hG.trans hG0.symm), (Or.inr rfl)⟩, by rw [ht]; exact hP9, hD9⟩, hS.F ht⟩) hS.2.2 dX3_canServe_75
set_option maxRecDepth 100000 in
def fb_mX3_greatest_19 (koF : Nat → Int32) (tordersF : Nat → Int32) (p0 : Int32) (p1 : Int32) (x1 : Int32) (E64 : Int32 → Int32 → Int32) (K : Int32 → Int32 → Int32) (l19_0 : Int32) (l19_1 : Int32) : Int32 := if x1 ≤ l19_0 then (E64 l19_0 l19_1) else (bnd (fX3_priceOf tordersF l19_0) (fun (ry19_4 : Int32) => if ry19_4 ≤ l19_1 then (bnd ((1 <<< (p0 &&& 31))) (fun (xy19_10 : Int32) => bnd ((l19_0 + xy19_10)) (fun (xy19_11 : Int32) => K xy19_11 l19_1))) else (bnd (fX3_canServe koF l19_0 p1) (fun (ry19_14 : Int32) => if ry19_14 = 0 then (bnd ((1 <<< (p0 &&& 31))) (fun (xy19_21 : Int32) => bnd ((l19_0 + xy19_21)) (fun (xy19_22 : Int32) => K xy19_22 l19_1))) else (bnd ((1 <<< (p0 &&& 31))) (fun (xy19_23 : Int32) => bnd ((l19_0 + xy19_23)) (fun (xy19_24 : Int32) => K xy19_24 ry19_4)))))))
def fl_mX3_greatest_19 (koF : Nat → Int32) (tordersF : Nat → Int32) (p0 : Int32) (p1 : Int32) (x1 : Int32) (E64 : Int32 → Int32 → Int32) : Nat → Int32 → Int32 → Int32
  | 0, _, _ => 0
  | n + 1, l19_0, l19_1 => fb_mX3_greatest_19 koF tordersF p0 p1 x1 E64 (fl_mX3_greatest_19 koF tordersF p0 p1 x1 E64 n) l19_0 l19_1
set_option maxHeartbeats 4000000 in
set_option maxRecDepth 100000 in
theorem lp_mX3_greatest_19 {p : Program} {l : Launch} {e : Env} {R : Room} {s : State} {m : MethodId} {args : Array Value} {below : List Frame} {meth : Method} {c : Code} {Q : State → Prop} {dC : Nat → ClassId} {dI : Nat → Nat → Nat} {kA : Nat → ClassId} {A : Nat → Prop} {H0 : Heap} {cells slots : Nat} (hx : p.tables.exec = Jvm.exec) (hb : c.code = cX3_greatest) (hml : c.maxLocals = 7) (hts : ∀ w ∈ wsX3_greatest, w.before args s = true) (hown : s.vm.findClass RX3 = some m.cls) (hK : zK dC dI kA s) (hA : ∀ q, H0.size ≤ q → A q) (hRf : 2 ≤ R.frames) (hRl : 46 ≤ R.locals) (hRc : cells ≤ R.cells) (hRs : slots ≤ R.slots) (m0 : Nat) (k_paid : Int32) (ko : Nat) (kc : Nat) (koF : Nat → Int32) (w0 : Nat) (tnodes : Nat) (tpasses : Nat) (tjars : Nat) (torders : Nat) (tordersA : Nat) (tordersS : Int32) (tordersF : Nat → Int32) (tfeasts : Nat) (tway : Nat) (tws : Int32) (tnow : Int32) (tfm : Int32) (tx : Int32) (p0 : Int32) (p1 : Int32) (x1 : Int32) {G : Int32} {E64 : Int32 → Int32 → Int32} (ho0 : ¬ tordersS < 0) (ho6 : ¬ 6 < tordersS) (hf0 : ¬ p0 < 0) (hf6 : ¬ 6 < p0) (h1x1 : ¬ x1 < 1) (h2x1 : ¬ 64 < x1) (k64 : ∀ (w64_0 : Int32) (w64_1 : Int32) (H : Heap) (locs : List Loc) (ls : Array Slot), ¬ w64_0 < 0 → E64 w64_0 w64_1 = G → va_P (dC, dI) vwCl [(m0, .inr (3, [.int k_paid, .ref ko, .ref kc, .ref w0])), (ko, .inl (kA 0, 6, .inl koF)), (w0, .inr (9, [.ref tnodes, .ref tpasses, .ref tjars, .ref torders, .ref tfeasts, .ref tway, .int tws, .int tnow, .int tfm, .int tx])), (torders, .inr (6, [.int 4, .ref tordersA, .int tordersS])), (tordersA, .inl (kA 0, 24, .inl tordersF))] H → va_D A [(m0, .inr (3, [.int k_paid, .ref ko, .ref kc, .ref w0])), (ko, .inl (kA 0, 6, .inl koF)), (w0, .inr (9, [.ref tnodes, .ref tpasses, .ref tjars, .ref torders, .ref tfeasts, .ref tway, .int tws, .int tnow, .int tfm, .int tx])), (torders, .inr (6, [.int 4, .ref tordersA, .int tordersS])), (tordersA, .inl (kA 0, 24, .inl tordersF))] → va_S A H0 H locs → lv_has ls 7 [(5, .int w64_0), (4, .int x1), (3, .int w64_1), (0, .ref m0), (1, .int p0), (2, .int p1)] → W p l e R s m args below meth c H locs cells slots Q (F0 m 64 ls []))  : ∀ (n : Nat) (l19_0 : Int32) (l19_1 : Int32) (H : Heap) (locs : List Loc) (ls : Array Slot), (x1.toInt - l19_0.toInt).toNat < n → fl_mX3_greatest_19 koF tordersF p0 p1 x1 E64 n l19_0 l19_1 = G → ¬ l19_0 < 0 → va_P (dC, dI) vwCl [(m0, .inr (3, [.int k_paid, .ref ko, .ref kc, .ref w0])), (ko, .inl (kA 0, 6, .inl koF)), (w0, .inr (9, [.ref tnodes, .ref tpasses, .ref tjars, .ref torders, .ref tfeasts, .ref tway, .int tws, .int tnow, .int tfm, .int tx])), (torders, .inr (6, [.int 4, .ref tordersA, .int tordersS])), (tordersA, .inl (kA 0, 24, .inl tordersF))] H → va_D A [(m0, .inr (3, [.int k_paid, .ref ko, .ref kc, .ref w0])), (ko, .inl (kA 0, 6, .inl koF)), (w0, .inr (9, [.ref tnodes, .ref tpasses, .ref tjars, .ref torders, .ref tfeasts, .ref tway, .int tws, .int tnow, .int tfm, .int tx])), (torders, .inr (6, [.int 4, .ref tordersA, .int tordersS])), (tordersA, .inl (kA 0, 24, .inl tordersF))] → va_S A H0 H locs → lv_has ls 7 [(5, .int l19_0), (4, .int x1), (3, .int l19_1), (0, .ref m0), (1, .int p0), (2, .int p1)] → W p l e R s m args below meth c H locs cells slots Q (F0 m 19 ls []) := by
  intro n
  induction n with
  | zero =>
    intro l19_0 l19_1 H locs ls hn
    exact absurd hn (Nat.not_lt_zero _)
  | succ n ih =>
    intro l19_0 l19_1 H locs ls hn hG hg0 hP hD hS hl
    have hG : fb_mX3_greatest_19 koF tordersF p0 p1 x1 E64 (fl_mX3_greatest_19 koF tordersF p0 p1 x1 E64 n) l19_0 l19_1 = G := hG
    unfold fb_mX3_greatest_19 at hG
    refine lv_iload hx hb dX3_greatest_19 (lv_at hl 0 rfl) ?_
    refine lv_iload hx hb dX3_greatest_21 (lv_at hl 1 rfl) ?_
    refine lv_icmp_ge (tgt := 64) hx hb dX3_greatest_23 (by decide) (fun c_y19_1 => ?_) (fun c_y19_1 => ?_)
    · have hG := zthen hG c_y19_1
      exact k64 l19_0 l19_1 H locs ls hg0 hG (hP.sub [0, 1, 2, 3, 4] rfl) (hD.sub [0, 1, 2, 3, 4] (by decide) rfl) hS (lv_sub hl [0, 1, 2, 3, 4, 5] rfl)
    · have hG := zelse hG c_y19_1
      refine lv_aload_n hx hb dX3_greatest_26 rfl (lv_at hl 3 rfl) ?_
      refine lv_iload hx hb dX3_greatest_27 (lv_at hl 0 rfl) ?_
      refine z_i (wr := [(ko, .inl (kA 0, 6, .inl koF))]) (va_runV (As := [.int l19_0]) (rest := []) ⟨hx, hb, hml, hown, hts⟩ (mX3_priceOf l dC dI kA _ m0 k_paid ko kc w0 tnodes tpasses tjars torders tordersA tordersS tordersF tfeasts tway tws tnow tfm tx l19_0) (cwV 1 hts gX3_greatest_X3_priceOf rfl rfl rfl ⟨rfl, hdX3_priceOf⟩ ⟨(Nat.le_trans (Nat.le_of_ble_eq_true rfl) hRf), (Nat.le_trans (Nat.le_of_ble_eq_true rfl) hRl)⟩) ⟨zPc.blind, va_recv (q := (RX3, TX3, 4)) hK.1 hP (ci := 3) (q0 := 0) rfl rfl, zPre hK (hP.sub [0, 2, 3, 4] rfl) (hD.sub [0, 2, 3, 4] (by decide) rfl)⟩ rfl rfl hl.1 rfl (lv_room (Nat.le_of_ble_eq_true rfl)) dX3_greatest_29 ⟨hRc, hRs⟩) hP hD hS hA [0, 2, 3, 4] [1] rfl rfl (by decide) (by decide) (fun ry19_4 uy19_2 H locs hwy19_3 hP hD hS => ?_)
      obtain ⟨ery19_7, hpy19_6⟩ := hwy19_3
      have ery19_7 : ry19_4 = uy19_2 := ery19_7
      subst ery19_7
      have ery19_4 : ry19_4 = fX3_priceOf tordersF l19_0 := hpy19_6
      have hG := zbnd hG ery19_4
      obtain ⟨hP, hD⟩ := z_re (L := [(ko, .inl (kA 0, 6, .inl koF)), (m0, .inr (3, [.int k_paid, .ref ko, .ref kc, .ref w0])), (w0, .inr (9, [.ref tnodes, .ref tpasses, .ref tjars, .ref torders, .ref tfeasts, .ref tway, .int tws, .int tnow, .int tfm, .int tx])), (torders, .inr (6, [.int 4, .ref tordersA, .int tordersS])), (tordersA, .inl (kA 0, 24, .inl tordersF))]) hP hD
      refine lv_istore (lv' := [(6, .int ry19_4), (5, .int l19_0), (4, .int x1), (3, .int l19_1), (0, .ref m0), (1, .int p0), (2, .int p1)]) hx hb dX3_greatest_32 hl (by decide) rfl (fun ls hl => ?_)
      refine lv_iload hx hb dX3_greatest_34 (lv_at hl 0 rfl) ?_
      refine lv_iload_n hx hb dX3_greatest_36 rfl (lv_at hl 3 rfl) ?_
      refine lv_icmp_le (tgt := 53) hx hb dX3_greatest_37 (by decide) (fun c_y19_9 => ?_) (fun c_y19_9 => ?_)
      · have hG := zthen hG c_y19_9
        refine lv_iload hx hb dX3_greatest_53 (lv_at hl 1 rfl) ?_
        refine lv_iconst (v := 1) hx hb dX3_greatest_55 (by decide) ?_
        refine lv_iload_n hx hb dX3_greatest_56 rfl (lv_at hl 5 rfl) ?_
        refine lv_ishl hx hb dX3_greatest_57 ?_
        refine lv_topi (fun xy19_10 exy19_10 => ?_)
        have hG := zbnd hG exy19_10
        have h1xy19_10 := z_shl1 exy19_10 hf0 hf6
        have h2xy19_10 := h1xy19_10.2
        have h1xy19_10 := h1xy19_10.1
        refine lv_iadd hx hb dX3_greatest_58 ?_
        refine lv_topi (fun xy19_11 exy19_11 => ?_)
        have hG := zbnd hG exy19_11
        refine lv_istore (lv' := [(5, .int xy19_11), (6, .int ry19_4), (4, .int x1), (3, .int l19_1), (0, .ref m0), (1, .int p0), (2, .int p1)]) hx hb dX3_greatest_59 hl (by decide) rfl (fun ls hl => ?_)
        refine lv_goto (tgt := 19) hx hb dX3_greatest_61 (by decide) ?_
        exact ih xy19_11 l19_1 H locs ls (z_step hn exy19_11 c_y19_1 hg0 h1xy19_10 h2xy19_10 h2x1) hG (z_step0 exy19_11 c_y19_1 hg0 h1xy19_10 h2xy19_10 h2x1) (hP.sub [1, 0, 2, 3, 4] rfl) (hD.sub [1, 0, 2, 3, 4] (by decide) rfl) hS (lv_sub hl [0, 2, 3, 4, 5, 6] rfl)
      · have hG := zelse hG c_y19_9
        refine lv_aload_n hx hb dX3_greatest_40 rfl (lv_at hl 4 rfl) ?_
        refine lv_iload hx hb dX3_greatest_41 (lv_at hl 1 rfl) ?_
        refine lv_iload_n hx hb dX3_greatest_43 rfl (lv_at hl 6 rfl) ?_
        refine z_i (wr := [(w0, .inr (9, [.ref tnodes, .ref tpasses, .ref tjars, .ref torders, .ref tfeasts, .ref tway, .int tws, .int tnow, .int tfm, .int tx])), (torders, .inr (6, [.int 4, .ref tordersA, .int tordersS])), (tordersA, .inl (kA 0, 24, .inl tordersF))]) (va_runV (As := [.int l19_0, .int p1]) (rest := []) ⟨hx, hb, hml, hown, hts⟩ (mX3_canServe l dC dI kA _ m0 k_paid ko kc koF w0 l19_0 p1) (cwV 2 hts gX3_greatest_X3_canServe rfl rfl rfl ⟨rfl, hdX3_canServe⟩ ⟨(Nat.le_trans (Nat.le_of_ble_eq_true rfl) hRf), (Nat.le_trans (Nat.le_of_ble_eq_true rfl) hRl)⟩) ⟨zPc.blind, va_recv (q := (RX3, TX3, 4)) hK.1 hP (ci := 3) (q0 := 1) rfl rfl, zPre hK (hP.sub [1, 0] rfl) (hD.sub [1, 0] (by decide) rfl)⟩ rfl rfl hl.1 rfl (lv_room (Nat.le_of_ble_eq_true rfl)) dX3_greatest_44 ⟨hRc, hRs⟩) hP hD hS hA [1, 0] [2, 3, 4] rfl rfl (by decide) (by decide) (fun ry19_14 uy19_12 H locs hwy19_13 hP hD hS => ?_)
        obtain ⟨ery19_18, hpy19_16, hpy19_17⟩ := hwy19_13
        have ery19_18 : ry19_14 = uy19_12 := ery19_18
        subst ery19_18
        have ery19_14 : ry19_14 = fX3_canServe koF l19_0 p1 := hpy19_16
        have hG := zbnd hG ery19_14
        obtain ⟨hP, hD⟩ := z_re (L := [(w0, .inr (9, [.ref tnodes, .ref tpasses, .ref tjars, .ref torders, .ref tfeasts, .ref tway, .int tws, .int tnow, .int tfm, .int tx])), (torders, .inr (6, [.int 4, .ref tordersA, .int tordersS])), (tordersA, .inl (kA 0, 24, .inl tordersF)), (m0, .inr (3, [.int k_paid, .ref ko, .ref kc, .ref w0])), (ko, .inl (kA 0, 6, .inl koF))]) hP hD
        refine lv_if_eq (tgt := 53) hx hb dX3_greatest_47 (by decide) (fun c_y19_20 => ?_) (fun c_y19_20 => ?_)
        · have hG := zthen hG c_y19_20
          refine lv_iload hx hb dX3_greatest_53 (lv_at hl 1 rfl) ?_
          refine lv_iconst (v := 1) hx hb dX3_greatest_55 (by decide) ?_
          refine lv_iload_n hx hb dX3_greatest_56 rfl (lv_at hl 5 rfl) ?_
          refine lv_ishl hx hb dX3_greatest_57 ?_
          refine lv_topi (fun xy19_21 exy19_21 => ?_)
          have hG := zbnd hG exy19_21
          have h1xy19_21 := z_shl1 exy19_21 hf0 hf6
          have h2xy19_21 := h1xy19_21.2
          have h1xy19_21 := h1xy19_21.1
          refine lv_iadd hx hb dX3_greatest_58 ?_
          refine lv_topi (fun xy19_22 exy19_22 => ?_)
          have hG := zbnd hG exy19_22
          refine lv_istore (lv' := [(5, .int xy19_22), (6, .int ry19_4), (4, .int x1), (3, .int l19_1), (0, .ref m0), (1, .int p0), (2, .int p1)]) hx hb dX3_greatest_59 hl (by decide) rfl (fun ls hl => ?_)
          refine lv_goto (tgt := 19) hx hb dX3_greatest_61 (by decide) ?_
          exact ih xy19_22 l19_1 H locs ls (z_step hn exy19_22 c_y19_1 hg0 h1xy19_21 h2xy19_21 h2x1) hG (z_step0 exy19_22 c_y19_1 hg0 h1xy19_21 h2xy19_21 h2x1) (hP.sub [3, 4, 0, 1, 2] rfl) (hD.sub [3, 4, 0, 1, 2] (by decide) rfl) hS (lv_sub hl [0, 2, 3, 4, 5, 6] rfl)
        · have hG := zelse hG c_y19_20
          refine lv_iload hx hb dX3_greatest_50 (lv_at hl 0 rfl) ?_
          refine lv_istore_n (lv' := [(3, .int ry19_4), (6, .int ry19_4), (5, .int l19_0), (4, .int x1), (0, .ref m0), (1, .int p0), (2, .int p1)]) hx hb dX3_greatest_52 rfl hl (by decide) rfl (fun ls hl => ?_)
          refine lv_iload hx hb dX3_greatest_53 (lv_at hl 2 rfl) ?_
          refine lv_iconst (v := 1) hx hb dX3_greatest_55 (by decide) ?_
          refine lv_iload_n hx hb dX3_greatest_56 rfl (lv_at hl 5 rfl) ?_
          refine lv_ishl hx hb dX3_greatest_57 ?_
          refine lv_topi (fun xy19_23 exy19_23 => ?_)
          have hG := zbnd hG exy19_23
          have h1xy19_23 := z_shl1 exy19_23 hf0 hf6
          have h2xy19_23 := h1xy19_23.2
          have h1xy19_23 := h1xy19_23.1
          refine lv_iadd hx hb dX3_greatest_58 ?_
          refine lv_topi (fun xy19_24 exy19_24 => ?_)
          have hG := zbnd hG exy19_24
          refine lv_istore (lv' := [(5, .int xy19_24), (3, .int ry19_4), (6, .int ry19_4), (4, .int x1), (0, .ref m0), (1, .int p0), (2, .int p1)]) hx hb dX3_greatest_59 hl (by decide) rfl (fun ls hl => ?_)
          refine lv_goto (tgt := 19) hx hb dX3_greatest_61 (by decide) ?_
          exact ih xy19_24 ry19_4 H locs ls (z_step hn exy19_24 c_y19_1 hg0 h1xy19_23 h2xy19_23 h2x1) hG (z_step0 exy19_24 c_y19_1 hg0 h1xy19_23 h2xy19_23 h2x1) (hP.sub [3, 4, 0, 1, 2] rfl) (hD.sub [3, 4, 0, 1, 2] (by decide) rfl) hS (lv_sub hl [0, 3, 1, 4, 5, 6] rfl)
set_option maxRecDepth 100000 in
def fX3_greatest (koF : Nat → Int32) (tordersS : Int32) (tordersF : Nat → Int32) (p0 : Int32) (p1 : Int32) : Int32 := bnd ((1 <<< (tordersS &&& 31))) (fun (x1 : Int32) => fl_mX3_greatest_19 koF tordersF p0 p1 x1 (fun (w64_0_0 : Int32) (w64_1_0 : Int32) => w64_1_0) ((x1.toInt - (0 : Int32).toInt).toNat + 1) 0 0)
set_option maxHeartbeats 4000000 in
set_option maxRecDepth 100000 in
theorem mX3_greatest (l : Launch) (dC : Nat → ClassId) (dI : Nat → Nat → Nat) (kA : Nat → ClassId) (sz : Nat) (m0 : Nat) (k_paid : Int32) (ko : Nat) (kc : Nat) (koF : Nat → Int32) (w0 : Nat) (tnodes : Nat) (tpasses : Nat) (tjars : Nat) (torders : Nat) (tordersA : Nat) (tordersS : Int32) (tordersF : Nat → Int32) (tfeasts : Nat) (tway : Nat) (tws : Int32) (tnow : Int32) (tfm : Int32) (tx : Int32) (p0 : Int32) (p1 : Int32) (ho0 : ¬ tordersS < 0) (ho6 : ¬ 6 < tordersS) (hf0 : ¬ p0 < 0) (hf6 : ¬ 6 < p0) : Met l yX3_greatest wsX3_greatest ({ frames := 2, cells := 0, slots := 0, locals := 46 }) (zPc dC dI kA sz [.ref m0, .int p0, .int p1] [(m0, .inr (3, [.int k_paid, .ref ko, .ref kc, .ref w0])), (ko, .inl (kA 0, 6, .inl koF)), (w0, .inr (9, [.ref tnodes, .ref tpasses, .ref tjars, .ref torders, .ref tfeasts, .ref tway, .int tws, .int tnow, .int tfm, .int tx])), (torders, .inr (6, [.int 4, .ref tordersA, .int tordersS])), (tordersA, .inl (kA 0, 24, .inl tordersF))]) (va_Qi (fun (r : Int32) (u : Int32) => r = u ∧ u = fX3_greatest koF tordersS tordersF p0 p1) (zB dC dI (va_A [(m0, .inr (3, [.int k_paid, .ref ko, .ref kc, .ref w0])), (ko, .inl (kA 0, 6, .inl koF)), (w0, .inr (9, [.ref tnodes, .ref tpasses, .ref tjars, .ref torders, .ref tfeasts, .ref tway, .int tws, .int tnow, .int tfm, .int tx])), (torders, .inr (6, [.int 4, .ref tordersA, .int tordersS])), (tordersA, .inl (kA 0, 24, .inl tordersF))] sz) (fun (u : Int32) => [(m0, .inr (3, [.int k_paid, .ref ko, .ref kc, .ref w0])), (ko, .inl (kA 0, 6, .inl koF)), (w0, .inr (9, [.ref tnodes, .ref tpasses, .ref tjars, .ref torders, .ref tfeasts, .ref tway, .int tws, .int tnow, .int tfm, .int tx])), (torders, .inr (6, [.int 4, .ref tordersA, .int tordersS])), (tordersA, .inl (kA 0, 24, .inl tordersF))])) (va_A [(m0, .inr (3, [.int k_paid, .ref ko, .ref kc, .ref w0])), (ko, .inl (kA 0, 6, .inl koF)), (w0, .inr (9, [.ref tnodes, .ref tpasses, .ref tjars, .ref torders, .ref tfeasts, .ref tway, .int tws, .int tnow, .int tfm, .int tx])), (torders, .inr (6, [.int 4, .ref tordersA, .int tordersS])), (tordersA, .inl (kA 0, 24, .inl tordersF))] sz)) 0 0 (va_A [(m0, .inr (3, [.int k_paid, .ref ko, .ref kc, .ref w0])), (ko, .inl (kA 0, 6, .inl koF)), (w0, .inr (9, [.ref tnodes, .ref tpasses, .ref tjars, .ref torders, .ref tfeasts, .ref tway, .int tws, .int tnow, .int tfm, .int tx])), (torders, .inr (6, [.int 4, .ref tordersA, .int tordersS])), (tordersA, .inl (kA 0, 24, .inl tordersF))] sz) := by
  refine Met.ofW (cc := cX3_greatest) (maxL := 7) (ret := (some .int)) pnX3 rfl ?_
  intro p e s m args below meth c s₁ B hml hv
  obtain ⟨rfl, hsz, hP, hK, hD0⟩ := hv
  have hx := B.exec
  have hb := B.bytes
  have hr := B.returns
  have hts := atoms_spec (ws := wsX3_greatest) B.pre
  have hown : s.vm.findClass RX3 = some m.cls := findClass_of_methodNamed B.named
  have hlocks := B.notSynchronized
  subst hsz
  have hD := hD0.self (sz := s.heap.size)
  generalize hAe : va_A [(m0, .inr (3, [.int k_paid, .ref ko, .ref kc, .ref w0])), (ko, .inl (kA 0, 6, .inl koF)), (w0, .inr (9, [.ref tnodes, .ref tpasses, .ref tjars, .ref torders, .ref tfeasts, .ref tway, .int tws, .int tnow, .int tfm, .int tx])), (torders, .inr (6, [.int 4, .ref tordersA, .int tordersS])), (tordersA, .inl (kA 0, 24, .inl tordersF))] s.heap.size = A at hD ⊢
  have hA : ∀ q : Nat, s.heap.size ≤ q → A q := zA_of hAe
  have hS : va_S A s.heap s.heap [] := va_S.rf
  have hP : va_P (dC, dI) vwCl [(m0, .inr (3, [.int k_paid, .ref ko, .ref kc, .ref w0])), (ko, .inl (kA 0, 6, .inl koF)), (w0, .inr (9, [.ref tnodes, .ref tpasses, .ref tjars, .ref torders, .ref tfeasts, .ref tway, .int tws, .int tnow, .int tfm, .int tx])), (torders, .inr (6, [.int 4, .ref tordersA, .int tordersS])), (tordersA, .inl (kA 0, 24, .inl tordersF))] s.heap := hP
  have hl := lv_entry ([.ref m0, .int p0, .int p1]) (n := 7) (Nat.le_of_ble_eq_true rfl)
  rw [lg_entry_eq]
  generalize (lg_sl ([.ref m0, .int p0, .int p1]) ++ List.replicate (7 - (lg_sl ([.ref m0, .int p0, .int p1])).length) Slot.unset).toArray = ls at hl ⊢
  have hl : lv_has ls 7 [(0, .ref m0), (1, .int p0), (2, .int p1)] := hl
  obtain ⟨H, hHe⟩ : ∃ H : Heap, H = s.heap := ⟨_, rfl⟩
  obtain ⟨G, hG0⟩ : ∃ G : Int32, fX3_greatest koF tordersS tordersF p0 p1 = G := ⟨_, rfl⟩
  have hG := hG0
  unfold fX3_greatest at hG
  refine lv_iconst (v := 0) hx hb dX3_greatest_0 (by decide) ?_
  refine lv_istore_n (lv' := [(3, .int 0), (0, .ref m0), (1, .int p0), (2, .int p1)]) hx hb dX3_greatest_1 rfl hl (by decide) rfl (fun ls hl => ?_)
  refine lv_iconst (v := 1) hx hb dX3_greatest_2 (by decide) ?_
  refine lv_aload_n hx hb dX3_greatest_3 rfl (lv_at hl 1 rfl) ?_
  refine va_get (D := (dC, dI)) (ci := 3) (v := .ref w0) (C := RX3) (T := TX3) (N := 4) hx hb hts iX3_greatest_X3 hown hK.1 hP 0 gz0 vcz3 3 (by decide) (kX3_greatest_1 hts) (fun _ h9 => h9) gz3 dX3_greatest_4 ?_
  refine va_get (D := (dC, dI)) (ci := 9) (v := .ref torders) (C := RX9) (T := TX9) (N := 10) hx hb hts iX3_greatest_X9 hown hK.1 hP 2 gz2 vcz9 3 (by decide) (kX3_greatest_2 hts) (fun _ h9 => h9) gz3 dX3_greatest_7 ?_
  refine va_get (D := (dC, dI)) (ci := 6) (v := .int tordersS) (C := RX6) (T := TX6) (N := 3) hx hb hts iX3_greatest_X6 hown hK.1 hP 3 gz3 vcz6 2 (by decide) (kX3_greatest_3 hts) (fun _ h9 => h9) gz2 dX3_greatest_10 ?_
  refine lv_ishl hx hb dX3_greatest_13 ?_
  refine lv_topi (fun x1 ex1 => ?_)
  have hG := zbnd hG ex1
  have h1x1 := z_shl1 ex1 ho0 ho6
  have h2x1 := h1x1.2
  have h1x1 := h1x1.1
  refine lv_istore (lv' := [(4, .int x1), (3, .int 0), (0, .ref m0), (1, .int p0), (2, .int p1)]) hx hb dX3_greatest_14 hl (by decide) rfl (fun ls hl => ?_)
  refine lv_iconst (v := 0) hx hb dX3_greatest_16 (by decide) ?_
  refine lv_istore (lv' := [(5, .int 0), (4, .int x1), (3, .int 0), (0, .ref m0), (1, .int p0), (2, .int p1)]) hx hb dX3_greatest_17 hl (by decide) rfl (fun ls hl => ?_)
  refine lp_mX3_greatest_19 hx hb hml hts hown hK hA (Nat.le_of_ble_eq_true rfl) (Nat.le_of_ble_eq_true rfl) (Nat.le_of_ble_eq_true rfl) (Nat.le_of_ble_eq_true rfl) m0 k_paid ko kc koF w0 tnodes tpasses tjars torders tordersA tordersS tordersF tfeasts tway tws tnow tfm tx p0 p1 x1 ho0 ho6 hf0 hf6 h1x1 h2x1 (fun w64_0_0 w64_1_0 H locs ls hx64_5_nlt00_0 hG hP hD hS hl => ?_) _ 0 0 _ _ ls (Nat.lt_succ_self _) hG (by decide) hP hD hS (lv_sub hl [0, 1, 2, 3, 4, 5] rfl)
  obtain ⟨hP, hD⟩ := z_re (L := [(m0, .inr (3, [.int k_paid, .ref ko, .ref kc, .ref w0])), (ko, .inl (kA 0, 6, .inl koF)), (w0, .inr (9, [.ref tnodes, .ref tpasses, .ref tjars, .ref torders, .ref tfeasts, .ref tway, .int tws, .int tnow, .int tfm, .int tx])), (torders, .inr (6, [.int 4, .ref tordersA, .int tordersS])), (tordersA, .inl (kA 0, 24, .inl tordersF))]) hP hD
  refine lv_iload_n hx hb dX3_greatest_64 rfl (lv_at hl 2 rfl) ?_
  obtain ⟨hP9, hD9⟩ := z_sb (L' := [(m0, .inr (3, [.int k_paid, .ref ko, .ref kc, .ref w0])), (ko, .inl (kA 0, 6, .inl koF)), (w0, .inr (9, [.ref tnodes, .ref tpasses, .ref tjars, .ref torders, .ref tfeasts, .ref tway, .int tws, .int tnow, .int tfm, .int tx])), (torders, .inr (6, [.int 4, .ref tordersA, .int tordersS])), (tordersA, .inl (kA 0, 24, .inl tordersF))]) hP hD [0, 1, 2, 3, 4] (by decide) rfl
  refine W.widen (k := 0) (n := 0) (Nat.le_of_ble_eq_true rfl) (Nat.le_of_ble_eq_true rfl) ?_
  exact W.iret (v := w64_1_0) hx hb hr (fun t ht hW => ⟨⟨w64_1_0, (w64_1_0), rfl, ⟨rfl, (hG.trans hG0.symm)⟩, by rw [ht]; exact hP9, hD9⟩, hS.F ht⟩) hS.2.2 dX3_greatest_65
set_option maxRecDepth 100000 in
def fb_mX3_firstJar_19 (koF : Nat → Int32) (tordersS : Int32) (tordersF : Nat → Int32) (p0 : Int32) (p1 : Int32) (x8 : Int32) (E82 : Int32 → Int32 → Int32 → Int32) (E91 : Int32 → Int32) (K : Int32 → Int32) (l19_0 : Int32) : Int32 := if 16 ≤ l19_0 then (E91 l19_0) else (bnd ((1 <<< (l19_0 &&& 31))) (fun (xy19_2 : Int32) => if 6 ≤ p0 then (bnd ((l19_0 + 1)) (fun (xy19_5 : Int32) => K xy19_5)) else (bnd (koF p0.toNatClampNeg) (fun (xy19_6 : Int32) => if ((xy19_6 &&& xy19_2) &&& (p1 ^^^ (-1))) = 0 then (bnd ((l19_0 + 1)) (fun (xy19_9 : Int32) => K xy19_9)) else (bnd (fX3_greatest koF tordersS tordersF (p0 + 1) (p1 ||| xy19_2)) (fun (ry19_13 : Int32) => if ry19_13 = x8 then (E82 l19_0 xy19_2 1) else (bnd ((l19_0 + 1)) (fun (xy19_19 : Int32) => K xy19_19))))))))
def fl_mX3_firstJar_19 (koF : Nat → Int32) (tordersS : Int32) (tordersF : Nat → Int32) (p0 : Int32) (p1 : Int32) (x8 : Int32) (E82 : Int32 → Int32 → Int32 → Int32) (E91 : Int32 → Int32) : Nat → Int32 → Int32
  | 0, _ => 0
  | n + 1, l19_0 => fb_mX3_firstJar_19 koF tordersS tordersF p0 p1 x8 E82 E91 (fl_mX3_firstJar_19 koF tordersS tordersF p0 p1 x8 E82 E91 n) l19_0
set_option maxHeartbeats 4000000 in
set_option maxRecDepth 100000 in
theorem lp_mX3_firstJar_19 {p : Program} {l : Launch} {e : Env} {R : Room} {s : State} {m : MethodId} {args : Array Value} {below : List Frame} {meth : Method} {c : Code} {Q : State → Prop} {dC : Nat → ClassId} {dI : Nat → Nat → Nat} {kA : Nat → ClassId} {A : Nat → Prop} {H0 : Heap} {cells slots : Nat} (hx : p.tables.exec = Jvm.exec) (hb : c.code = cX3_firstJar) (hml : c.maxLocals = 8) (hts : ∀ w ∈ wsX3_firstJar, w.before args s = true) (hown : s.vm.findClass RX3 = some m.cls) (hK : zK dC dI kA s) (hA : ∀ q, H0.size ≤ q → A q) (hRf : 3 ≤ R.frames) (hRl : 72 ≤ R.locals) (hRc : cells ≤ R.cells) (hRs : slots ≤ R.slots) (m0 : Nat) (k_paid : Int32) (ko : Nat) (kc : Nat) (koF : Nat → Int32) (w0 : Nat) (tnodes : Nat) (tpasses : Nat) (tjars : Nat) (torders : Nat) (tordersA : Nat) (tordersS : Int32) (tordersF : Nat → Int32) (tfeasts : Nat) (tway : Nat) (tws : Int32) (tnow : Int32) (tfm : Int32) (tx : Int32) (p0 : Int32) (p1 : Int32) (p2 : Int32) (x8 : Int32) {G : Int32} {E82 : Int32 → Int32 → Int32 → Int32} {E91 : Int32 → Int32} (ho0 : ¬ tordersS < 0) (ho6 : ¬ 6 < tordersS) (hf0 : ¬ p0 < 0) (hf6 : ¬ 6 ≤ p0) (k82 : ∀ (w82_0 : Int32) (w82_1 : Int32) (w82_2 : Int32) (H : Heap) (locs : List Loc) (ls : Array Slot), ¬ 16 ≤ w82_0 → ¬ w82_0 < 0 → ¬ w82_2 < 0 → E82 w82_0 w82_1 w82_2 = G → va_P (dC, dI) vwCl [(m0, .inr (3, [.int k_paid, .ref ko, .ref kc, .ref w0])), (ko, .inl (kA 0, 6, .inl koF)), (w0, .inr (9, [.ref tnodes, .ref tpasses, .ref tjars, .ref torders, .ref tfeasts, .ref tway, .int tws, .int tnow, .int tfm, .int tx])), (torders, .inr (6, [.int 4, .ref tordersA, .int tordersS])), (tordersA, .inl (kA 0, 24, .inl tordersF))] H → va_D A [(m0, .inr (3, [.int k_paid, .ref ko, .ref kc, .ref w0])), (ko, .inl (kA 0, 6, .inl koF)), (w0, .inr (9, [.ref tnodes, .ref tpasses, .ref tjars, .ref torders, .ref tfeasts, .ref tway, .int tws, .int tnow, .int tfm, .int tx])), (torders, .inr (6, [.int 4, .ref tordersA, .int tordersS])), (tordersA, .inl (kA 0, 24, .inl tordersF))] → va_S A H0 H locs → lv_has ls 8 [(5, .int w82_0), (4, .int x8), (0, .ref m0), (1, .int p0), (2, .int p1), (3, .int p2), (6, .int w82_1), (7, .int w82_2)] → W p l e R s m args below meth c H locs cells slots Q (F0 m 82 ls [])) (k91 : ∀ (w91_0 : Int32) (H : Heap) (locs : List Loc) (ls : Array Slot), ¬ w91_0 < 0 → E91 w91_0 = G → va_P (dC, dI) vwCl [(m0, .inr (3, [.int k_paid, .ref ko, .ref kc, .ref w0])), (ko, .inl (kA 0, 6, .inl koF)), (w0, .inr (9, [.ref tnodes, .ref tpasses, .ref tjars, .ref torders, .ref tfeasts, .ref tway, .int tws, .int tnow, .int tfm, .int tx])), (torders, .inr (6, [.int 4, .ref tordersA, .int tordersS])), (tordersA, .inl (kA 0, 24, .inl tordersF))] H → va_D A [(m0, .inr (3, [.int k_paid, .ref ko, .ref kc, .ref w0])), (ko, .inl (kA 0, 6, .inl koF)), (w0, .inr (9, [.ref tnodes, .ref tpasses, .ref tjars, .ref torders, .ref tfeasts, .ref tway, .int tws, .int tnow, .int tfm, .int tx])), (torders, .inr (6, [.int 4, .ref tordersA, .int tordersS])), (tordersA, .inl (kA 0, 24, .inl tordersF))] → va_S A H0 H locs → lv_has ls 8 [(5, .int w91_0), (4, .int x8), (0, .ref m0), (1, .int p0), (2, .int p1), (3, .int p2)] → W p l e R s m args below meth c H locs cells slots Q (F0 m 91 ls []))  : ∀ (n : Nat) (l19_0 : Int32) (H : Heap) (locs : List Loc) (ls : Array Slot), ((16 : Int32).toInt - l19_0.toInt).toNat < n → fl_mX3_firstJar_19 koF tordersS tordersF p0 p1 x8 E82 E91 n l19_0 = G → ¬ l19_0 < 0 → va_P (dC, dI) vwCl [(m0, .inr (3, [.int k_paid, .ref ko, .ref kc, .ref w0])), (ko, .inl (kA 0, 6, .inl koF)), (w0, .inr (9, [.ref tnodes, .ref tpasses, .ref tjars, .ref torders, .ref tfeasts, .ref tway, .int tws, .int tnow, .int tfm, .int tx])), (torders, .inr (6, [.int 4, .ref tordersA, .int tordersS])), (tordersA, .inl (kA 0, 24, .inl tordersF))] H → va_D A [(m0, .inr (3, [.int k_paid, .ref ko, .ref kc, .ref w0])), (ko, .inl (kA 0, 6, .inl koF)), (w0, .inr (9, [.ref tnodes, .ref tpasses, .ref tjars, .ref torders, .ref tfeasts, .ref tway, .int tws, .int tnow, .int tfm, .int tx])), (torders, .inr (6, [.int 4, .ref tordersA, .int tordersS])), (tordersA, .inl (kA 0, 24, .inl tordersF))] → va_S A H0 H locs → lv_has ls 8 [(5, .int l19_0), (4, .int x8), (0, .ref m0), (1, .int p0), (2, .int p1), (3, .int p2)] → W p l e R s m args below meth c H locs cells slots Q (F0 m 19 ls []) := by
  intro n
  induction n with
  | zero =>
    intro l19_0 H locs ls hn
    exact absurd hn (Nat.not_lt_zero _)
  | succ n ih =>
    intro l19_0 H locs ls hn hG hi19 hP hD hS hl
    have hG : fb_mX3_firstJar_19 koF tordersS tordersF p0 p1 x8 E82 E91 (fl_mX3_firstJar_19 koF tordersS tordersF p0 p1 x8 E82 E91 n) l19_0 = G := hG
    unfold fb_mX3_firstJar_19 at hG
    refine lv_iload hx hb dX3_firstJar_19 (lv_at hl 0 rfl) ?_
    refine lv_bipush (v := 16) hx hb dX3_firstJar_21 (by decide) ?_
    refine lv_icmp_ge (tgt := 91) hx hb dX3_firstJar_23 (by decide) (fun c_y19_1 => ?_) (fun c_y19_1 => ?_)
    · have hG := zthen hG c_y19_1
      exact k91 l19_0 H locs ls hi19 hG (hP.sub [0, 1, 2, 3, 4] rfl) (hD.sub [0, 1, 2, 3, 4] (by decide) rfl) hS (lv_sub hl [0, 1, 2, 3, 4, 5] rfl)
    · have hG := zelse hG c_y19_1
      refine lv_iconst (v := 1) hx hb dX3_firstJar_26 (by decide) ?_
      refine lv_iload hx hb dX3_firstJar_27 (lv_at hl 0 rfl) ?_
      refine lv_ishl hx hb dX3_firstJar_29 ?_
      refine lv_topi (fun xy19_2 exy19_2 => ?_)
      have hG := zbnd hG exy19_2
      refine lv_istore (lv' := [(6, .int xy19_2), (5, .int l19_0), (4, .int x8), (0, .ref m0), (1, .int p0), (2, .int p1), (3, .int p2)]) hx hb dX3_firstJar_30 hl (by decide) rfl (fun ls hl => ?_)
      refine lv_iload_n hx hb dX3_firstJar_32 rfl (lv_at hl 4 rfl) ?_
      refine lv_bipush (v := 6) hx hb dX3_firstJar_33 (by decide) ?_
      refine lv_icmp_ge (tgt := 58) hx hb dX3_firstJar_35 (by decide) (fun c_y19_3 => ?_) (fun c_y19_3 => ?_)
      · have hG := zthen hG c_y19_3
        refine lv_iconst (v := 0) hx hb dX3_firstJar_58 (by decide) ?_
        refine lv_istore (lv' := [(7, .int 0), (6, .int xy19_2), (5, .int l19_0), (4, .int x8), (0, .ref m0), (1, .int p0), (2, .int p1), (3, .int p2)]) hx hb dX3_firstJar_59 hl (by decide) rfl (fun ls hl => ?_)
        refine lv_iload hx hb dX3_firstJar_61 (lv_at hl 0 rfl) ?_
        refine lv_if_eq (tgt := 85) hx hb dX3_firstJar_63 (by decide) (fun _ => ?_) (fun c_y19_4 => absurd (by decide) c_y19_4)
        obtain ⟨xy19_5, exy19_5⟩ : ∃ y : Int32, y = l19_0 + 1 := ⟨_, rfl⟩
        have hG := zbnd hG exy19_5
        refine lv_iinc (v := xy19_5) (lv' := [(5, .int xy19_5), (7, .int 0), (6, .int xy19_2), (4, .int x8), (0, .ref m0), (1, .int p0), (2, .int p1), (3, .int p2)]) hx hb dX3_firstJar_85 hl (k := 2) rfl (by rw [exy19_5]; rfl) (by decide) rfl (fun ls hl => ?_)
        refine lv_goto (tgt := 19) hx hb dX3_firstJar_88 (by decide) ?_
        exact ih xy19_5 H locs ls (z_up hn exy19_5 c_y19_1) hG (z_nn exy19_5 c_y19_1 hi19) (hP.sub [0, 1, 2, 3, 4] rfl) (hD.sub [0, 1, 2, 3, 4] (by decide) rfl) hS (lv_sub hl [0, 3, 4, 5, 6, 7] rfl)
      · have hG := zelse hG c_y19_3
        refine lv_aload_n hx hb dX3_firstJar_38 rfl (lv_at hl 3 rfl) ?_
        refine va_get (D := (dC, dI)) (ci := 3) (v := .ref ko) (C := RX3) (T := TX3) (N := 4) hx hb hts iX3_firstJar_X3 hown hK.1 hP 0 gz0 vcz3 1 (by decide) (kX3_firstJar_3 hts) (fun _ h9 => h9) gz1 dX3_firstJar_39 ?_
        refine lv_iload_n hx hb dX3_firstJar_42 rfl (lv_at hl 4 rfl) ?_
        refine va_iald hx hb hK.1 hP 1 0 gz1 tzz0 (vp_lt (by decide) hf0 hf6) dX3_firstJar_43 ?_
        refine lv_topi (fun xy19_6 exy19_6 => ?_)
        have hG := zbnd hG exy19_6
        refine lv_iload hx hb dX3_firstJar_44 (lv_at hl 0 rfl) ?_
        refine lv_iand hx hb dX3_firstJar_46 ?_
        refine lv_iload_n hx hb dX3_firstJar_47 rfl (lv_at hl 5 rfl) ?_
        refine lv_iconst (v := (-1)) hx hb dX3_firstJar_48 (by decide) ?_
        refine lv_ixor hx hb dX3_firstJar_49 ?_
        refine lv_iand hx hb dX3_firstJar_50 ?_
        refine lv_if_eq (tgt := 58) hx hb dX3_firstJar_51 (by decide) (fun c_y19_7 => ?_) (fun c_y19_7 => ?_)
        · have hG := zthen hG c_y19_7
          refine lv_iconst (v := 0) hx hb dX3_firstJar_58 (by decide) ?_
          refine lv_istore (lv' := [(7, .int 0), (6, .int xy19_2), (5, .int l19_0), (4, .int x8), (0, .ref m0), (1, .int p0), (2, .int p1), (3, .int p2)]) hx hb dX3_firstJar_59 hl (by decide) rfl (fun ls hl => ?_)
          refine lv_iload hx hb dX3_firstJar_61 (lv_at hl 0 rfl) ?_
          refine lv_if_eq (tgt := 85) hx hb dX3_firstJar_63 (by decide) (fun _ => ?_) (fun c_y19_8 => absurd (by decide) c_y19_8)
          obtain ⟨xy19_9, exy19_9⟩ : ∃ y : Int32, y = l19_0 + 1 := ⟨_, rfl⟩
          have hG := zbnd hG exy19_9
          refine lv_iinc (v := xy19_9) (lv' := [(5, .int xy19_9), (7, .int 0), (6, .int xy19_2), (4, .int x8), (0, .ref m0), (1, .int p0), (2, .int p1), (3, .int p2)]) hx hb dX3_firstJar_85 hl (k := 2) rfl (by rw [exy19_9]; rfl) (by decide) rfl (fun ls hl => ?_)
          refine lv_goto (tgt := 19) hx hb dX3_firstJar_88 (by decide) ?_
          exact ih xy19_9 H locs ls (z_up hn exy19_9 c_y19_1) hG (z_nn exy19_9 c_y19_1 hi19) (hP.sub [0, 1, 2, 3, 4] rfl) (hD.sub [0, 1, 2, 3, 4] (by decide) rfl) hS (lv_sub hl [0, 3, 4, 5, 6, 7] rfl)
        · have hG := zelse hG c_y19_7
          refine lv_iconst (v := 1) hx hb dX3_firstJar_54 (by decide) ?_
          refine lv_goto (tgt := 59) hx hb dX3_firstJar_55 (by decide) ?_
          refine lv_istore (lv' := [(7, .int 1), (6, .int xy19_2), (5, .int l19_0), (4, .int x8), (0, .ref m0), (1, .int p0), (2, .int p1), (3, .int p2)]) hx hb dX3_firstJar_59 hl (by decide) rfl (fun ls hl => ?_)
          refine lv_iload hx hb dX3_firstJar_61 (lv_at hl 0 rfl) ?_
          refine lv_if_eq (tgt := 85) hx hb dX3_firstJar_63 (by decide) (fun c_y19_10 => absurd c_y19_10 (by decide)) (fun _ => ?_)
          refine lv_aload_n hx hb dX3_firstJar_66 rfl (lv_at hl 4 rfl) ?_
          refine lv_iload_n hx hb dX3_firstJar_67 rfl (lv_at hl 5 rfl) ?_
          refine lv_iconst (v := 1) hx hb dX3_firstJar_68 (by decide) ?_
          refine lv_iadd hx hb dX3_firstJar_69 ?_
          refine lv_iload_n hx hb dX3_firstJar_70 rfl (lv_at hl 6 rfl) ?_
          refine lv_iload hx hb dX3_firstJar_71 (lv_at hl 1 rfl) ?_
          refine lv_ior hx hb dX3_firstJar_73 ?_
          refine z_i (wr := []) (va_runV (As := [.int (p0 + 1), .int (p1 ||| xy19_2)]) (rest := []) ⟨hx, hb, hml, hown, hts⟩ (mX3_greatest l dC dI kA _ m0 k_paid ko kc koF w0 tnodes tpasses tjars torders tordersA tordersS tordersF tfeasts tway tws tnow tfm tx (p0 + 1) (p1 ||| xy19_2) ho0 ho6 (z_inc6 hf0 hf6).1 (z_inc6 hf0 hf6).2) (cwV 2 hts gX3_firstJar_X3_greatest rfl rfl rfl ⟨rfl, hdX3_greatest⟩ ⟨(Nat.le_trans (Nat.le_of_ble_eq_true rfl) hRf), (Nat.le_trans (Nat.le_of_ble_eq_true rfl) hRl)⟩) ⟨zPc.blind, va_recv (q := (RX3, TX3, 4)) hK.1 hP (ci := 3) (q0 := 0) rfl rfl, zPre hK (hP.sub [0, 1, 2, 3, 4] rfl) (hD.sub [0, 1, 2, 3, 4] (by decide) rfl)⟩ rfl rfl hl.1 rfl (lv_room (Nat.le_of_ble_eq_true rfl)) dX3_firstJar_74 ⟨hRc, hRs⟩) hP hD hS hA [0, 1, 2, 3, 4] [] rfl rfl (by decide) (by decide) (fun ry19_13 uy19_11 H locs hwy19_12 hP hD hS => ?_)
          obtain ⟨ery19_16, hpy19_15⟩ := hwy19_12
          have ery19_16 : ry19_13 = uy19_11 := ery19_16
          subst ery19_16
          have ery19_13 : ry19_13 = fX3_greatest koF tordersS tordersF (p0 + 1) (p1 ||| xy19_2) := hpy19_15
          have hG := zbnd hG ery19_13
          obtain ⟨hP, hD⟩ := z_re (L := [(m0, .inr (3, [.int k_paid, .ref ko, .ref kc, .ref w0])), (ko, .inl (kA 0, 6, .inl koF)), (w0, .inr (9, [.ref tnodes, .ref tpasses, .ref tjars, .ref torders, .ref tfeasts, .ref tway, .int tws, .int tnow, .int tfm, .int tx])), (torders, .inr (6, [.int 4, .ref tordersA, .int tordersS])), (tordersA, .inl (kA 0, 24, .inl tordersF))]) hP hD
          refine lv_iload hx hb dX3_firstJar_77 (lv_at hl 3 rfl) ?_
          refine lv_icmp_ne (tgt := 85) hx hb dX3_firstJar_79 (by decide) (fun c_y19_18 => ?_) (fun c_y19_18 => ?_)
          · have hG := zelse hG c_y19_18
            obtain ⟨xy19_19, exy19_19⟩ : ∃ y : Int32, y = l19_0 + 1 := ⟨_, rfl⟩
            have hG := zbnd hG exy19_19
            refine lv_iinc (v := xy19_19) (lv' := [(5, .int xy19_19), (7, .int 1), (6, .int xy19_2), (4, .int x8), (0, .ref m0), (1, .int p0), (2, .int p1), (3, .int p2)]) hx hb dX3_firstJar_85 hl (k := 2) rfl (by rw [exy19_19]; rfl) (by decide) rfl (fun ls hl => ?_)
            refine lv_goto (tgt := 19) hx hb dX3_firstJar_88 (by decide) ?_
            exact ih xy19_19 H locs ls (z_up hn exy19_19 c_y19_1) hG (z_nn exy19_19 c_y19_1 hi19) (hP.sub [0, 1, 2, 3, 4] rfl) (hD.sub [0, 1, 2, 3, 4] (by decide) rfl) hS (lv_sub hl [0, 3, 4, 5, 6, 7] rfl)
          · have hG := zthen hG c_y19_18
            exact k82 l19_0 xy19_2 1 H locs ls c_y19_1 hi19 (by decide) hG (hP.sub [0, 1, 2, 3, 4] rfl) (hD.sub [0, 1, 2, 3, 4] (by decide) rfl) hS (lv_sub hl [2, 3, 4, 5, 6, 7, 1, 0] rfl)
set_option maxRecDepth 100000 in
def fX3_firstJar (koF : Nat → Int32) (tordersS : Int32) (tordersF : Nat → Int32) (p0 : Int32) (p1 : Int32) (p2 : Int32) : Int32 := bnd (fX6_get_24 4 tordersF p0 3) (fun (r3 : Int32) => bnd ((p2 - r3)) (fun (x8 : Int32) => fl_mX3_firstJar_19 koF tordersS tordersF p0 p1 x8 (fun (w82_0_0 : Int32) (w82_1_0 : Int32) (w82_2_0 : Int32) => w82_0_0) (fun (w91_0_0 : Int32) => 16) (((16 : Int32).toInt - (0 : Int32).toInt).toNat + 1) 0))
set_option maxHeartbeats 4000000 in
set_option maxRecDepth 100000 in
theorem mX3_firstJar (l : Launch) (dC : Nat → ClassId) (dI : Nat → Nat → Nat) (kA : Nat → ClassId) (sz : Nat) (m0 : Nat) (k_paid : Int32) (ko : Nat) (kc : Nat) (koF : Nat → Int32) (w0 : Nat) (tnodes : Nat) (tpasses : Nat) (tjars : Nat) (torders : Nat) (tordersA : Nat) (tordersS : Int32) (tordersF : Nat → Int32) (tfeasts : Nat) (tway : Nat) (tws : Int32) (tnow : Int32) (tfm : Int32) (tx : Int32) (p0 : Int32) (p1 : Int32) (p2 : Int32) (ho0 : ¬ tordersS < 0) (ho6 : ¬ 6 < tordersS) (hf0 : ¬ p0 < 0) (hf6 : ¬ 6 ≤ p0) : Met l yX3_firstJar wsX3_firstJar ({ frames := 3, cells := 0, slots := 0, locals := 72 }) (zPc dC dI kA sz [.ref m0, .int p0, .int p1, .int p2] [(m0, .inr (3, [.int k_paid, .ref ko, .ref kc, .ref w0])), (ko, .inl (kA 0, 6, .inl koF)), (w0, .inr (9, [.ref tnodes, .ref tpasses, .ref tjars, .ref torders, .ref tfeasts, .ref tway, .int tws, .int tnow, .int tfm, .int tx])), (torders, .inr (6, [.int 4, .ref tordersA, .int tordersS])), (tordersA, .inl (kA 0, 24, .inl tordersF))]) (va_Qi (fun (r : Int32) (u : Int32) => r = u ∧ u = fX3_firstJar koF tordersS tordersF p0 p1 p2) (zB dC dI (va_A [(m0, .inr (3, [.int k_paid, .ref ko, .ref kc, .ref w0])), (ko, .inl (kA 0, 6, .inl koF)), (w0, .inr (9, [.ref tnodes, .ref tpasses, .ref tjars, .ref torders, .ref tfeasts, .ref tway, .int tws, .int tnow, .int tfm, .int tx])), (torders, .inr (6, [.int 4, .ref tordersA, .int tordersS])), (tordersA, .inl (kA 0, 24, .inl tordersF))] sz) (fun (u : Int32) => [(m0, .inr (3, [.int k_paid, .ref ko, .ref kc, .ref w0])), (ko, .inl (kA 0, 6, .inl koF)), (w0, .inr (9, [.ref tnodes, .ref tpasses, .ref tjars, .ref torders, .ref tfeasts, .ref tway, .int tws, .int tnow, .int tfm, .int tx])), (torders, .inr (6, [.int 4, .ref tordersA, .int tordersS])), (tordersA, .inl (kA 0, 24, .inl tordersF))])) (va_A [(m0, .inr (3, [.int k_paid, .ref ko, .ref kc, .ref w0])), (ko, .inl (kA 0, 6, .inl koF)), (w0, .inr (9, [.ref tnodes, .ref tpasses, .ref tjars, .ref torders, .ref tfeasts, .ref tway, .int tws, .int tnow, .int tfm, .int tx])), (torders, .inr (6, [.int 4, .ref tordersA, .int tordersS])), (tordersA, .inl (kA 0, 24, .inl tordersF))] sz)) 0 0 (va_A [(m0, .inr (3, [.int k_paid, .ref ko, .ref kc, .ref w0])), (ko, .inl (kA 0, 6, .inl koF)), (w0, .inr (9, [.ref tnodes, .ref tpasses, .ref tjars, .ref torders, .ref tfeasts, .ref tway, .int tws, .int tnow, .int tfm, .int tx])), (torders, .inr (6, [.int 4, .ref tordersA, .int tordersS])), (tordersA, .inl (kA 0, 24, .inl tordersF))] sz) := by
  refine Met.ofW (cc := cX3_firstJar) (maxL := 8) (ret := (some .int)) pnX3 rfl ?_
  intro p e s m args below meth c s₁ B hml hv
  obtain ⟨rfl, hsz, hP, hK, hD0⟩ := hv
  have hx := B.exec
  have hb := B.bytes
  have hr := B.returns
  have hts := atoms_spec (ws := wsX3_firstJar) B.pre
  have hown : s.vm.findClass RX3 = some m.cls := findClass_of_methodNamed B.named
  have hlocks := B.notSynchronized
  subst hsz
  have hD := hD0.self (sz := s.heap.size)
  generalize hAe : va_A [(m0, .inr (3, [.int k_paid, .ref ko, .ref kc, .ref w0])), (ko, .inl (kA 0, 6, .inl koF)), (w0, .inr (9, [.ref tnodes, .ref tpasses, .ref tjars, .ref torders, .ref tfeasts, .ref tway, .int tws, .int tnow, .int tfm, .int tx])), (torders, .inr (6, [.int 4, .ref tordersA, .int tordersS])), (tordersA, .inl (kA 0, 24, .inl tordersF))] s.heap.size = A at hD ⊢
  have hA : ∀ q : Nat, s.heap.size ≤ q → A q := zA_of hAe
  have hS : va_S A s.heap s.heap [] := va_S.rf
  have hP : va_P (dC, dI) vwCl [(m0, .inr (3, [.int k_paid, .ref ko, .ref kc, .ref w0])), (ko, .inl (kA 0, 6, .inl koF)), (w0, .inr (9, [.ref tnodes, .ref tpasses, .ref tjars, .ref torders, .ref tfeasts, .ref tway, .int tws, .int tnow, .int tfm, .int tx])), (torders, .inr (6, [.int 4, .ref tordersA, .int tordersS])), (tordersA, .inl (kA 0, 24, .inl tordersF))] s.heap := hP
  have hl := lv_entry ([.ref m0, .int p0, .int p1, .int p2]) (n := 8) (Nat.le_of_ble_eq_true rfl)
  rw [lg_entry_eq]
  generalize (lg_sl ([.ref m0, .int p0, .int p1, .int p2]) ++ List.replicate (8 - (lg_sl ([.ref m0, .int p0, .int p1, .int p2])).length) Slot.unset).toArray = ls at hl ⊢
  have hl : lv_has ls 8 [(0, .ref m0), (1, .int p0), (2, .int p1), (3, .int p2)] := hl
  obtain ⟨H, hHe⟩ : ∃ H : Heap, H = s.heap := ⟨_, rfl⟩
  obtain ⟨G, hG0⟩ : ∃ G : Int32, fX3_firstJar koF tordersS tordersF p0 p1 p2 = G := ⟨_, rfl⟩
  have hG := hG0
  unfold fX3_firstJar at hG
  refine lv_iload_n hx hb dX3_firstJar_0 rfl (lv_at hl 3 rfl) ?_
  refine lv_aload_n hx hb dX3_firstJar_1 rfl (lv_at hl 0 rfl) ?_
  refine va_get (D := (dC, dI)) (ci := 3) (v := .ref w0) (C := RX3) (T := TX3) (N := 4) hx hb hts iX3_firstJar_X3 hown hK.1 hP 0 gz0 vcz3 3 (by decide) (kX3_firstJar_1 hts) (fun _ h9 => h9) gz3 dX3_firstJar_2 ?_
  refine va_get (D := (dC, dI)) (ci := 9) (v := .ref torders) (C := RX9) (T := TX9) (N := 10) hx hb hts iX3_firstJar_X9 hown hK.1 hP 2 gz2 vcz9 3 (by decide) (kX3_firstJar_2 hts) (fun _ h9 => h9) gz3 dX3_firstJar_5 ?_
  refine lv_iload_n hx hb dX3_firstJar_8 rfl (lv_at hl 1 rfl) ?_
  refine lv_iconst (v := 3) hx hb dX3_firstJar_9 (by decide) ?_
  refine z_i (wr := [(m0, .inr (3, [.int k_paid, .ref ko, .ref kc, .ref w0])), (ko, .inl (kA 0, 6, .inl koF)), (w0, .inr (9, [.ref tnodes, .ref tpasses, .ref tjars, .ref torders, .ref tfeasts, .ref tway, .int tws, .int tnow, .int tfm, .int tx]))]) (va_runV (As := [.int p0, .int 3]) (rest := [.int p2]) ⟨hx, hb, hml, hown, hts⟩ (mX6_get_24 l dC dI kA _ torders tordersA 4 tordersS tordersF p0 3) (cwV 2 hts gX3_firstJar_X6_get rfl rfl rfl ⟨rfl, hdX6_get⟩ ⟨(Nat.le_of_ble_eq_true rfl), (Nat.le_of_ble_eq_true rfl)⟩) ⟨zPc.blind, va_recv (q := (RX6, TX6, 3)) hK.1 hP (ci := 6) (q0 := 3) rfl rfl, zPre hK (hP.sub [3, 4] rfl) (hD.sub [3, 4] (by decide) rfl)⟩ rfl rfl hl.1 rfl (lv_room (Nat.le_of_ble_eq_true rfl)) dX3_firstJar_10 ⟨(Nat.le_of_ble_eq_true rfl), (Nat.le_of_ble_eq_true rfl)⟩) hP hD hS hA [3, 4] [0, 1, 2] rfl rfl (by decide) (by decide) (fun r3 u1 H locs hw2 hP hD hS => ?_)
  obtain ⟨er6, hp5⟩ := hw2
  have er6 : r3 = u1 := er6
  subst er6
  have er3 : r3 = fX6_get_24 4 tordersF p0 3 := hp5
  have hG := zbnd hG er3
  obtain ⟨hP, hD⟩ := z_re (L := [(m0, .inr (3, [.int k_paid, .ref ko, .ref kc, .ref w0])), (ko, .inl (kA 0, 6, .inl koF)), (w0, .inr (9, [.ref tnodes, .ref tpasses, .ref tjars, .ref torders, .ref tfeasts, .ref tway, .int tws, .int tnow, .int tfm, .int tx])), (torders, .inr (6, [.int 4, .ref tordersA, .int tordersS])), (tordersA, .inl (kA 0, 24, .inl tordersF))]) hP hD
  refine lv_isub hx hb dX3_firstJar_13 ?_
  refine lv_topi (fun x8 ex8 => ?_)
  have hG := zbnd hG ex8
  refine lv_istore (lv' := [(4, .int x8), (0, .ref m0), (1, .int p0), (2, .int p1), (3, .int p2)]) hx hb dX3_firstJar_14 hl (by decide) rfl (fun ls hl => ?_)
  refine lv_iconst (v := 0) hx hb dX3_firstJar_16 (by decide) ?_
  refine lv_istore (lv' := [(5, .int 0), (4, .int x8), (0, .ref m0), (1, .int p0), (2, .int p1), (3, .int p2)]) hx hb dX3_firstJar_17 hl (by decide) rfl (fun ls hl => ?_)
  refine lp_mX3_firstJar_19 hx hb hml hts hown hK hA (Nat.le_of_ble_eq_true rfl) (Nat.le_of_ble_eq_true rfl) (Nat.le_of_ble_eq_true rfl) (Nat.le_of_ble_eq_true rfl) m0 k_paid ko kc koF w0 tnodes tpasses tjars torders tordersA tordersS tordersF tfeasts tway tws tnow tfm tx p0 p1 p2 x8 ho0 ho6 hf0 hf6 (fun w82_0_0 w82_1_0 w82_2_0 H locs ls hx82_5_nle16_0 hx82_5_nlt00_0 hx82_7_nlt00_0 hG hP hD hS hl => ?_) (fun w91_0_0 H locs ls hx91_5_nlt00_0 hG hP hD hS hl => ?_) _ 0 _ _ ls (Nat.lt_succ_self _) hG (by decide) hP hD hS (lv_sub hl [0, 1, 2, 3, 4, 5] rfl)
  · obtain ⟨hP, hD⟩ := z_re (L := [(m0, .inr (3, [.int k_paid, .ref ko, .ref kc, .ref w0])), (ko, .inl (kA 0, 6, .inl koF)), (w0, .inr (9, [.ref tnodes, .ref tpasses, .ref tjars, .ref torders, .ref tfeasts, .ref tway, .int tws, .int tnow, .int tfm, .int tx])), (torders, .inr (6, [.int 4, .ref tordersA, .int tordersS])), (tordersA, .inl (kA 0, 24, .inl tordersF))]) hP hD
    refine lv_iload hx hb dX3_firstJar_82 (lv_at hl 0 rfl) ?_
    obtain ⟨hP9, hD9⟩ := z_sb (L' := [(m0, .inr (3, [.int k_paid, .ref ko, .ref kc, .ref w0])), (ko, .inl (kA 0, 6, .inl koF)), (w0, .inr (9, [.ref tnodes, .ref tpasses, .ref tjars, .ref torders, .ref tfeasts, .ref tway, .int tws, .int tnow, .int tfm, .int tx])), (torders, .inr (6, [.int 4, .ref tordersA, .int tordersS])), (tordersA, .inl (kA 0, 24, .inl tordersF))]) hP hD [0, 1, 2, 3, 4] (by decide) rfl
    refine W.widen (k := 0) (n := 0) (Nat.le_of_ble_eq_true rfl) (Nat.le_of_ble_eq_true rfl) ?_
    exact W.iret (v := w82_0_0) hx hb hr (fun t ht hW => ⟨⟨w82_0_0, (w82_0_0), rfl, ⟨rfl, (hG.trans hG0.symm)⟩, by rw [ht]; exact hP9, hD9⟩, hS.F ht⟩) hS.2.2 dX3_firstJar_84
  · obtain ⟨hP, hD⟩ := z_re (L := [(m0, .inr (3, [.int k_paid, .ref ko, .ref kc, .ref w0])), (ko, .inl (kA 0, 6, .inl koF)), (w0, .inr (9, [.ref tnodes, .ref tpasses, .ref tjars, .ref torders, .ref tfeasts, .ref tway, .int tws, .int tnow, .int tfm, .int tx])), (torders, .inr (6, [.int 4, .ref tordersA, .int tordersS])), (tordersA, .inl (kA 0, 24, .inl tordersF))]) hP hD
    refine lv_bipush (v := 16) hx hb dX3_firstJar_91 (by decide) ?_
    obtain ⟨hP9, hD9⟩ := z_sb (L' := [(m0, .inr (3, [.int k_paid, .ref ko, .ref kc, .ref w0])), (ko, .inl (kA 0, 6, .inl koF)), (w0, .inr (9, [.ref tnodes, .ref tpasses, .ref tjars, .ref torders, .ref tfeasts, .ref tway, .int tws, .int tnow, .int tfm, .int tx])), (torders, .inr (6, [.int 4, .ref tordersA, .int tordersS])), (tordersA, .inl (kA 0, 24, .inl tordersF))]) hP hD [0, 1, 2, 3, 4] (by decide) rfl
    refine W.widen (k := 0) (n := 0) (Nat.le_of_ble_eq_true rfl) (Nat.le_of_ble_eq_true rfl) ?_
    exact W.iret (v := 16) hx hb hr (fun t ht hW => ⟨⟨16, (16), rfl, ⟨rfl, (hG.trans hG0.symm)⟩, by rw [ht]; exact hP9, hD9⟩, hS.F ht⟩) hS.2.2 dX3_firstJar_93
set_option maxRecDepth 100000 in
def fb_mX3_choose_19 (koF : Nat → Int32) (tordersS : Int32) (tordersF : Nat → Int32) (E91 : (Nat → Int32) → Int32 → Int32 → Int32 → (Int32 × (Nat → Int32))) (K : (Nat → Int32) → Int32 → Int32 → Int32 → (Int32 × (Nat → Int32))) (g19_0 : Nat → Int32) (l19_1 : Int32) (l19_2 : Int32) (l19_3 : Int32) : Int32 × (Nat → Int32) := if tordersS ≤ l19_1 then (E91 g19_0 l19_1 l19_2 l19_3) else (if 6 ≤ l19_1 then (E91 g19_0 l19_1 l19_2 l19_3) else (bnd (fX3_firstJar koF tordersS tordersF l19_1 l19_2 l19_3) (fun (ry19_5 : Int32) => bnd ((upd g19_0 l19_1.toNatClampNeg ry19_5)) (fun (fy19_10 : Nat → Int32) => if ry19_5 = 16 then (bnd ((l19_1 + 1)) (fun (xy19_12 : Int32) => K fy19_10 xy19_12 l19_2 l19_3)) else (bnd ((1 <<< (ry19_5 &&& 31))) (fun (xy19_13 : Int32) => bnd ((l19_2 ||| xy19_13)) (fun (xy19_14 : Int32) => bnd (fX6_get_24 4 tordersF l19_1 3) (fun (ry19_17 : Int32) => bnd ((l19_3 - ry19_17)) (fun (xy19_22 : Int32) => bnd ((l19_1 + 1)) (fun (xy19_23 : Int32) => K fy19_10 xy19_23 xy19_14 xy19_22))))))))))
def fl_mX3_choose_19 (koF : Nat → Int32) (tordersS : Int32) (tordersF : Nat → Int32) (E91 : (Nat → Int32) → Int32 → Int32 → Int32 → (Int32 × (Nat → Int32))) : Nat → (Nat → Int32) → Int32 → Int32 → Int32 → (Int32 × (Nat → Int32))
  | 0, _, _, _, _ => (0, (fun _ => 0))
  | n + 1, g19_0, l19_1, l19_2, l19_3 => fb_mX3_choose_19 koF tordersS tordersF E91 (fl_mX3_choose_19 koF tordersS tordersF E91 n) g19_0 l19_1 l19_2 l19_3
set_option maxHeartbeats 4000000 in
set_option maxRecDepth 100000 in
theorem lp_mX3_choose_19 {p : Program} {l : Launch} {e : Env} {R : Room} {s : State} {m : MethodId} {args : Array Value} {below : List Frame} {meth : Method} {c : Code} {Q : State → Prop} {dC : Nat → ClassId} {dI : Nat → Nat → Nat} {kA : Nat → ClassId} {A : Nat → Prop} {H0 : Heap} {cells slots : Nat} (hx : p.tables.exec = Jvm.exec) (hb : c.code = cX3_choose) (hml : c.maxLocals = 5) (hts : ∀ w ∈ wsX3_choose, w.before args s = true) (hown : s.vm.findClass RX3 = some m.cls) (hK : zK dC dI kA s) (hA : ∀ q, H0.size ≤ q → A q) (hRf : 4 ≤ R.frames) (hRl : 99 ≤ R.locals) (hRc : cells ≤ R.cells) (hRs : slots ≤ R.slots) (m0 : Nat) (ko : Nat) (kc : Nat) (koF : Nat → Int32) (w0 : Nat) (tnodes : Nat) (tpasses : Nat) (tjars : Nat) (torders : Nat) (tordersA : Nat) (tordersS : Int32) (tordersF : Nat → Int32) (tfeasts : Nat) (tway : Nat) (tws : Int32) (tnow : Int32) (tfm : Int32) (tx : Int32) (r3 : Int32) {G : Int32 × (Nat → Int32)} {E91 : (Nat → Int32) → Int32 → Int32 → Int32 → (Int32 × (Nat → Int32))} (ho0 : ¬ tordersS < 0) (ho6 : ¬ 6 < tordersS) (k91 : ∀ (w91_0 : Nat → Int32) (w91_1 : Int32) (w91_2 : Int32) (w91_3 : Int32) (H : Heap) (locs : List Loc) (ls : Array Slot), ¬ w91_1 < 0 → E91 w91_0 w91_1 w91_2 w91_3 = G → va_P (dC, dI) vwCl [(kc, .inl (kA 0, 6, .inl w91_0)), (m0, .inr (3, [.int r3, .ref ko, .ref kc, .ref w0])), (ko, .inl (kA 0, 6, .inl koF)), (w0, .inr (9, [.ref tnodes, .ref tpasses, .ref tjars, .ref torders, .ref tfeasts, .ref tway, .int tws, .int tnow, .int tfm, .int tx])), (torders, .inr (6, [.int 4, .ref tordersA, .int tordersS])), (tordersA, .inl (kA 0, 24, .inl tordersF))] H → va_D A [(kc, .inl (kA 0, 6, .inl w91_0)), (m0, .inr (3, [.int r3, .ref ko, .ref kc, .ref w0])), (ko, .inl (kA 0, 6, .inl koF)), (w0, .inr (9, [.ref tnodes, .ref tpasses, .ref tjars, .ref torders, .ref tfeasts, .ref tway, .int tws, .int tnow, .int tfm, .int tx])), (torders, .inr (6, [.int 4, .ref tordersA, .int tordersS])), (tordersA, .inl (kA 0, 24, .inl tordersF))] → va_S A H0 H locs → lv_has ls 5 [(3, .int w91_1), (2, .int w91_2), (1, .int w91_3), (0, .ref m0)] → W p l e R s m args below meth c H locs cells slots Q (F0 m 91 ls []))  : ∀ (n : Nat) (g19_0 : Nat → Int32) (l19_1 : Int32) (l19_2 : Int32) (l19_3 : Int32) (H : Heap) (locs : List Loc) (ls : Array Slot), ((tordersS : Int32).toInt - l19_1.toInt).toNat < n → fl_mX3_choose_19 koF tordersS tordersF E91 n g19_0 l19_1 l19_2 l19_3 = G → ¬ l19_1 < 0 → va_P (dC, dI) vwCl [(kc, .inl (kA 0, 6, .inl g19_0)), (m0, .inr (3, [.int r3, .ref ko, .ref kc, .ref w0])), (ko, .inl (kA 0, 6, .inl koF)), (w0, .inr (9, [.ref tnodes, .ref tpasses, .ref tjars, .ref torders, .ref tfeasts, .ref tway, .int tws, .int tnow, .int tfm, .int tx])), (torders, .inr (6, [.int 4, .ref tordersA, .int tordersS])), (tordersA, .inl (kA 0, 24, .inl tordersF))] H → va_D A [(kc, .inl (kA 0, 6, .inl g19_0)), (m0, .inr (3, [.int r3, .ref ko, .ref kc, .ref w0])), (ko, .inl (kA 0, 6, .inl koF)), (w0, .inr (9, [.ref tnodes, .ref tpasses, .ref tjars, .ref torders, .ref tfeasts, .ref tway, .int tws, .int tnow, .int tfm, .int tx])), (torders, .inr (6, [.int 4, .ref tordersA, .int tordersS])), (tordersA, .inl (kA 0, 24, .inl tordersF))] → va_S A H0 H locs → lv_has ls 5 [(3, .int l19_1), (2, .int l19_2), (1, .int l19_3), (0, .ref m0)] → W p l e R s m args below meth c H locs cells slots Q (F0 m 19 ls []) := by
  intro n
  induction n with
  | zero =>
    intro g19_0 l19_1 l19_2 l19_3 H locs ls hn
    exact absurd hn (Nat.not_lt_zero _)
  | succ n ih =>
    intro g19_0 l19_1 l19_2 l19_3 H locs ls hn hG hi19 hP hD hS hl
    have hG : fb_mX3_choose_19 koF tordersS tordersF E91 (fl_mX3_choose_19 koF tordersS tordersF E91 n) g19_0 l19_1 l19_2 l19_3 = G := hG
    unfold fb_mX3_choose_19 at hG
    refine lv_iload_n hx hb dX3_choose_19 rfl (lv_at hl 0 rfl) ?_
    refine lv_aload_n hx hb dX3_choose_20 rfl (lv_at hl 3 rfl) ?_
    refine va_get (D := (dC, dI)) (ci := 3) (v := .ref w0) (C := RX3) (T := TX3) (N := 4) hx hb hts iX3_choose_X3 hown hK.1 hP 1 gz1 vcz3 3 (by decide) (kX3_choose_2 hts) (fun _ h9 => h9) gz3 dX3_choose_21 ?_
    refine va_get (D := (dC, dI)) (ci := 9) (v := .ref torders) (C := RX9) (T := TX9) (N := 10) hx hb hts iX3_choose_X9 hown hK.1 hP 3 gz3 vcz9 3 (by decide) (kX3_choose_3 hts) (fun _ h9 => h9) gz3 dX3_choose_24 ?_
    refine va_get (D := (dC, dI)) (ci := 6) (v := .int tordersS) (C := RX6) (T := TX6) (N := 3) hx hb hts iX3_choose_X6 hown hK.1 hP 4 gz4 vcz6 2 (by decide) (kX3_choose_4 hts) (fun _ h9 => h9) gz2 dX3_choose_27 ?_
    refine lv_icmp_ge (tgt := 91) hx hb dX3_choose_30 (by decide) (fun c_y19_1 => ?_) (fun c_y19_1 => ?_)
    · have hG := zthen hG c_y19_1
      exact k91 g19_0 l19_1 l19_2 l19_3 H locs ls hi19 hG (hP.sub [0, 1, 2, 3, 4, 5] rfl) (hD.sub [0, 1, 2, 3, 4, 5] (by decide) rfl) hS (lv_sub hl [0, 1, 2, 3] rfl)
    · have hG := zelse hG c_y19_1
      refine lv_iload_n hx hb dX3_choose_33 rfl (lv_at hl 0 rfl) ?_
      refine lv_bipush (v := 6) hx hb dX3_choose_34 (by decide) ?_
      refine lv_icmp_ge (tgt := 91) hx hb dX3_choose_36 (by decide) (fun c_y19_2 => ?_) (fun c_y19_2 => ?_)
      · have hG := zthen hG c_y19_2
        exact k91 g19_0 l19_1 l19_2 l19_3 H locs ls hi19 hG (hP.sub [0, 1, 2, 3, 4, 5] rfl) (hD.sub [0, 1, 2, 3, 4, 5] (by decide) rfl) hS (lv_sub hl [0, 1, 2, 3] rfl)
      · have hG := zelse hG c_y19_2
        refine lv_aload_n hx hb dX3_choose_39 rfl (lv_at hl 3 rfl) ?_
        refine lv_iload_n hx hb dX3_choose_40 rfl (lv_at hl 0 rfl) ?_
        refine lv_iload_n hx hb dX3_choose_41 rfl (lv_at hl 1 rfl) ?_
        refine lv_iload_n hx hb dX3_choose_42 rfl (lv_at hl 2 rfl) ?_
        refine z_i (wr := [(kc, .inl (kA 0, 6, .inl g19_0))]) (va_runV (As := [.int l19_1, .int l19_2, .int l19_3]) (rest := []) ⟨hx, hb, hml, hown, hts⟩ (mX3_firstJar l dC dI kA _ m0 r3 ko kc koF w0 tnodes tpasses tjars torders tordersA tordersS tordersF tfeasts tway tws tnow tfm tx l19_1 l19_2 l19_3 ho0 ho6 hi19 c_y19_2) (cwV 3 hts gX3_choose_X3_firstJar rfl rfl rfl ⟨rfl, hdX3_firstJar⟩ ⟨(Nat.le_trans (Nat.le_of_ble_eq_true rfl) hRf), (Nat.le_trans (Nat.le_of_ble_eq_true rfl) hRl)⟩) ⟨zPc.blind, va_recv (q := (RX3, TX3, 4)) hK.1 hP (ci := 3) (q0 := 1) rfl rfl, zPre hK (hP.sub [1, 2, 3, 4, 5] rfl) (hD.sub [1, 2, 3, 4, 5] (by decide) rfl)⟩ rfl rfl hl.1 rfl (lv_room (Nat.le_of_ble_eq_true rfl)) dX3_choose_43 ⟨hRc, hRs⟩) hP hD hS hA [1, 2, 3, 4, 5] [0] rfl rfl (by decide) (by decide) (fun ry19_5 uy19_3 H locs hwy19_4 hP hD hS => ?_)
        obtain ⟨ery19_8, hpy19_7⟩ := hwy19_4
        have ery19_8 : ry19_5 = uy19_3 := ery19_8
        subst ery19_8
        have ery19_5 : ry19_5 = fX3_firstJar koF tordersS tordersF l19_1 l19_2 l19_3 := hpy19_7
        have hG := zbnd hG ery19_5
        obtain ⟨hP, hD⟩ := z_re (L := [(kc, .inl (kA 0, 6, .inl g19_0)), (m0, .inr (3, [.int r3, .ref ko, .ref kc, .ref w0])), (ko, .inl (kA 0, 6, .inl koF)), (w0, .inr (9, [.ref tnodes, .ref tpasses, .ref tjars, .ref torders, .ref tfeasts, .ref tway, .int tws, .int tnow, .int tfm, .int tx])), (torders, .inr (6, [.int 4, .ref tordersA, .int tordersS])), (tordersA, .inl (kA 0, 24, .inl tordersF))]) hP hD
        refine lv_istore (lv' := [(4, .int ry19_5), (3, .int l19_1), (2, .int l19_2), (1, .int l19_3), (0, .ref m0)]) hx hb dX3_choose_46 hl (by decide) rfl (fun ls hl => ?_)
        refine lv_aload_n hx hb dX3_choose_48 rfl (lv_at hl 4 rfl) ?_
        refine va_get (D := (dC, dI)) (ci := 3) (v := .ref kc) (C := RX3) (T := TX3) (N := 4) hx hb hts iX3_choose_X3 hown hK.1 hP 1 gz1 vcz3 2 (by decide) (kX3_choose_5 hts) (fun _ h9 => h9) gz2 dX3_choose_49 ?_
        refine lv_iload_n hx hb dX3_choose_52 rfl (lv_at hl 1 rfl) ?_
        refine lv_iload hx hb dX3_choose_53 (lv_at hl 0 rfl) ?_
        refine va_iast hx hb hK.1 hP hD hS 0 0 gz0 tzz0 (vp_lt (by decide) hi19 c_y19_2) dX3_choose_55 (fun H locs hP hD hS => ?_)
        obtain ⟨hP, hD⟩ := z_re (L := [(kc, .inl (kA 0, 6, .inl (upd g19_0 l19_1.toNatClampNeg ry19_5))), (m0, .inr (3, [.int r3, .ref ko, .ref kc, .ref w0])), (ko, .inl (kA 0, 6, .inl koF)), (w0, .inr (9, [.ref tnodes, .ref tpasses, .ref tjars, .ref torders, .ref tfeasts, .ref tway, .int tws, .int tnow, .int tfm, .int tx])), (torders, .inr (6, [.int 4, .ref tordersA, .int tordersS])), (tordersA, .inl (kA 0, 24, .inl tordersF))]) hP hD
        obtain ⟨fy19_10, efy19_10⟩ : ∃ y : Nat → Int32, y = (upd g19_0 l19_1.toNatClampNeg ry19_5) := ⟨_, rfl⟩
        rw [← efy19_10] at hP hD
        have hG := zbnd hG efy19_10
        refine lv_iload hx hb dX3_choose_56 (lv_at hl 0 rfl) ?_
        refine lv_bipush (v := 16) hx hb dX3_choose_58 (by decide) ?_
        refine lv_icmp_eq (tgt := 85) hx hb dX3_choose_60 (by decide) (fun c_y19_11 => ?_) (fun c_y19_11 => ?_)
        · have hG := zthen hG c_y19_11
          obtain ⟨xy19_12, exy19_12⟩ : ∃ y : Int32, y = l19_1 + 1 := ⟨_, rfl⟩
          have hG := zbnd hG exy19_12
          refine lv_iinc (v := xy19_12) (lv' := [(3, .int xy19_12), (4, .int ry19_5), (2, .int l19_2), (1, .int l19_3), (0, .ref m0)]) hx hb dX3_choose_85 hl (k := 1) rfl (by rw [exy19_12]; rfl) (by decide) rfl (fun ls hl => ?_)
          refine lv_goto (tgt := 19) hx hb dX3_choose_88 (by decide) ?_
          exact ih fy19_10 xy19_12 l19_2 l19_3 H locs ls (z_up hn exy19_12 c_y19_1) hG (z_nn exy19_12 c_y19_1 hi19) (hP.sub [0, 1, 2, 3, 4, 5] rfl) (hD.sub [0, 1, 2, 3, 4, 5] (by decide) rfl) hS (lv_sub hl [0, 2, 3, 4] rfl)
        · have hG := zelse hG c_y19_11
          refine lv_iload_n hx hb dX3_choose_63 rfl (lv_at hl 2 rfl) ?_
          refine lv_iconst (v := 1) hx hb dX3_choose_64 (by decide) ?_
          refine lv_iload hx hb dX3_choose_65 (lv_at hl 0 rfl) ?_
          refine lv_ishl hx hb dX3_choose_67 ?_
          refine lv_topi (fun xy19_13 exy19_13 => ?_)
          have hG := zbnd hG exy19_13
          refine lv_ior hx hb dX3_choose_68 ?_
          refine lv_topi (fun xy19_14 exy19_14 => ?_)
          have hG := zbnd hG exy19_14
          refine lv_istore_n (lv' := [(2, .int xy19_14), (4, .int ry19_5), (3, .int l19_1), (1, .int l19_3), (0, .ref m0)]) hx hb dX3_choose_69 rfl hl (by decide) rfl (fun ls hl => ?_)
          refine lv_iload_n hx hb dX3_choose_70 rfl (lv_at hl 3 rfl) ?_
          refine lv_aload_n hx hb dX3_choose_71 rfl (lv_at hl 4 rfl) ?_
          refine va_get (D := (dC, dI)) (ci := 3) (v := .ref w0) (C := RX3) (T := TX3) (N := 4) hx hb hts iX3_choose_X3 hown hK.1 hP 1 gz1 vcz3 3 (by decide) (kX3_choose_2 hts) (fun _ h9 => h9) gz3 dX3_choose_72 ?_
          refine va_get (D := (dC, dI)) (ci := 9) (v := .ref torders) (C := RX9) (T := TX9) (N := 10) hx hb hts iX3_choose_X9 hown hK.1 hP 3 gz3 vcz9 3 (by decide) (kX3_choose_3 hts) (fun _ h9 => h9) gz3 dX3_choose_75 ?_
          refine lv_iload_n hx hb dX3_choose_78 rfl (lv_at hl 2 rfl) ?_
          refine lv_iconst (v := 3) hx hb dX3_choose_79 (by decide) ?_
          refine z_i (wr := [(kc, .inl (kA 0, 6, .inl fy19_10)), (m0, .inr (3, [.int r3, .ref ko, .ref kc, .ref w0])), (ko, .inl (kA 0, 6, .inl koF)), (w0, .inr (9, [.ref tnodes, .ref tpasses, .ref tjars, .ref torders, .ref tfeasts, .ref tway, .int tws, .int tnow, .int tfm, .int tx]))]) (va_runV (As := [.int l19_1, .int 3]) (rest := [.int l19_3]) ⟨hx, hb, hml, hown, hts⟩ (mX6_get_24 l dC dI kA _ torders tordersA 4 tordersS tordersF l19_1 3) (cwV 2 hts gX3_choose_X6_get rfl rfl rfl ⟨rfl, hdX6_get⟩ ⟨(Nat.le_trans (Nat.le_of_ble_eq_true rfl) hRf), (Nat.le_trans (Nat.le_of_ble_eq_true rfl) hRl)⟩) ⟨zPc.blind, va_recv (q := (RX6, TX6, 3)) hK.1 hP (ci := 6) (q0 := 4) rfl rfl, zPre hK (hP.sub [4, 5] rfl) (hD.sub [4, 5] (by decide) rfl)⟩ rfl rfl hl.1 rfl (lv_room (Nat.le_of_ble_eq_true rfl)) dX3_choose_80 ⟨hRc, hRs⟩) hP hD hS hA [4, 5] [0, 1, 2, 3] rfl rfl (by decide) (by decide) (fun ry19_17 uy19_15 H locs hwy19_16 hP hD hS => ?_)
          obtain ⟨ery19_20, hpy19_19⟩ := hwy19_16
          have ery19_20 : ry19_17 = uy19_15 := ery19_20
          subst ery19_20
          have ery19_17 : ry19_17 = fX6_get_24 4 tordersF l19_1 3 := hpy19_19
          have hG := zbnd hG ery19_17
          obtain ⟨hP, hD⟩ := z_re (L := [(kc, .inl (kA 0, 6, .inl fy19_10)), (m0, .inr (3, [.int r3, .ref ko, .ref kc, .ref w0])), (ko, .inl (kA 0, 6, .inl koF)), (w0, .inr (9, [.ref tnodes, .ref tpasses, .ref tjars, .ref torders, .ref tfeasts, .ref tway, .int tws, .int tnow, .int tfm, .int tx])), (torders, .inr (6, [.int 4, .ref tordersA, .int tordersS])), (tordersA, .inl (kA 0, 24, .inl tordersF))]) hP hD
          refine lv_isub hx hb dX3_choose_83 ?_
          refine lv_topi (fun xy19_22 exy19_22 => ?_)
          have hG := zbnd hG exy19_22
          refine lv_istore_n (lv' := [(1, .int xy19_22), (2, .int xy19_14), (4, .int ry19_5), (3, .int l19_1), (0, .ref m0)]) hx hb dX3_choose_84 rfl hl (by decide) rfl (fun ls hl => ?_)
          obtain ⟨xy19_23, exy19_23⟩ : ∃ y : Int32, y = l19_1 + 1 := ⟨_, rfl⟩
          have hG := zbnd hG exy19_23
          refine lv_iinc (v := xy19_23) (lv' := [(3, .int xy19_23), (1, .int xy19_22), (2, .int xy19_14), (4, .int ry19_5), (0, .ref m0)]) hx hb dX3_choose_85 hl (k := 3) rfl (by rw [exy19_23]; rfl) (by decide) rfl (fun ls hl => ?_)
          refine lv_goto (tgt := 19) hx hb dX3_choose_88 (by decide) ?_
          exact ih fy19_10 xy19_23 xy19_14 xy19_22 H locs ls (z_up hn exy19_23 c_y19_1) hG (z_nn exy19_23 c_y19_1 hi19) (hP.sub [0, 1, 2, 3, 4, 5] rfl) (hD.sub [0, 1, 2, 3, 4, 5] (by decide) rfl) hS (lv_sub hl [0, 2, 1, 4] rfl)
set_option maxRecDepth 100000 in
def fX3_choose (koF : Nat → Int32) (kcF : Nat → Int32) (tordersS : Int32) (tordersF : Nat → Int32) : Int32 × (Nat → Int32) := bnd (fX3_greatest koF tordersS tordersF 0 0) (fun (r3 : Int32) => fl_mX3_choose_19 koF tordersS tordersF (fun (w91_0_0 : Nat → Int32) (w91_1_0 : Int32) (w91_2_0 : Int32) (w91_3_0 : Int32) => (r3, w91_0_0)) (((tordersS : Int32).toInt - (0 : Int32).toInt).toNat + 1) kcF 0 0 r3)
set_option maxHeartbeats 4000000 in
set_option maxRecDepth 100000 in
theorem mX3_choose (l : Launch) (dC : Nat → ClassId) (dI : Nat → Nat → Nat) (kA : Nat → ClassId) (sz : Nat) (m0 : Nat) (k_paid : Int32) (ko : Nat) (kc : Nat) (koF : Nat → Int32) (kcF : Nat → Int32) (w0 : Nat) (tnodes : Nat) (tpasses : Nat) (tjars : Nat) (torders : Nat) (tordersA : Nat) (tordersS : Int32) (tordersF : Nat → Int32) (tfeasts : Nat) (tway : Nat) (tws : Int32) (tnow : Int32) (tfm : Int32) (tx : Int32) (ho0 : ¬ tordersS < 0) (ho6 : ¬ 6 < tordersS) : Met l yX3_choose wsX3_choose ({ frames := 4, cells := 0, slots := 0, locals := 99 }) (zPc dC dI kA sz [.ref m0] [(m0, .inr (3, [.int k_paid, .ref ko, .ref kc, .ref w0])), (ko, .inl (kA 0, 6, .inl koF)), (kc, .inl (kA 0, 6, .inl kcF)), (w0, .inr (9, [.ref tnodes, .ref tpasses, .ref tjars, .ref torders, .ref tfeasts, .ref tway, .int tws, .int tnow, .int tfm, .int tx])), (torders, .inr (6, [.int 4, .ref tordersA, .int tordersS])), (tordersA, .inl (kA 0, 24, .inl tordersF))]) (va_Qv (fun (u : Int32 × (Nat → Int32)) => (u.1, u.2) = fX3_choose koF kcF tordersS tordersF) (zB dC dI (va_A [(m0, .inr (3, [.int k_paid, .ref ko, .ref kc, .ref w0])), (ko, .inl (kA 0, 6, .inl koF)), (kc, .inl (kA 0, 6, .inl kcF)), (w0, .inr (9, [.ref tnodes, .ref tpasses, .ref tjars, .ref torders, .ref tfeasts, .ref tway, .int tws, .int tnow, .int tfm, .int tx])), (torders, .inr (6, [.int 4, .ref tordersA, .int tordersS])), (tordersA, .inl (kA 0, 24, .inl tordersF))] sz) (fun (u : Int32 × (Nat → Int32)) => [(m0, .inr (3, [.int u.1, .ref ko, .ref kc, .ref w0])), (ko, .inl (kA 0, 6, .inl koF)), (kc, .inl (kA 0, 6, .inl u.2)), (w0, .inr (9, [.ref tnodes, .ref tpasses, .ref tjars, .ref torders, .ref tfeasts, .ref tway, .int tws, .int tnow, .int tfm, .int tx])), (torders, .inr (6, [.int 4, .ref tordersA, .int tordersS])), (tordersA, .inl (kA 0, 24, .inl tordersF))])) (va_A [(m0, .inr (3, [.int k_paid, .ref ko, .ref kc, .ref w0])), (ko, .inl (kA 0, 6, .inl koF)), (kc, .inl (kA 0, 6, .inl kcF)), (w0, .inr (9, [.ref tnodes, .ref tpasses, .ref tjars, .ref torders, .ref tfeasts, .ref tway, .int tws, .int tnow, .int tfm, .int tx])), (torders, .inr (6, [.int 4, .ref tordersA, .int tordersS])), (tordersA, .inl (kA 0, 24, .inl tordersF))] sz)) 0 0 (va_A [(m0, .inr (3, [.int k_paid, .ref ko, .ref kc, .ref w0])), (ko, .inl (kA 0, 6, .inl koF)), (kc, .inl (kA 0, 6, .inl kcF)), (w0, .inr (9, [.ref tnodes, .ref tpasses, .ref tjars, .ref torders, .ref tfeasts, .ref tway, .int tws, .int tnow, .int tfm, .int tx])), (torders, .inr (6, [.int 4, .ref tordersA, .int tordersS])), (tordersA, .inl (kA 0, 24, .inl tordersF))] sz) := by
  refine Met.ofW (cc := cX3_choose) (maxL := 5) (ret := none) pnX3 rfl ?_
  intro p e s m args below meth c s₁ B hml hv
  obtain ⟨rfl, hsz, hP, hK, hD0⟩ := hv
  have hx := B.exec
  have hb := B.bytes
  have hr := B.returns
  have hts := atoms_spec (ws := wsX3_choose) B.pre
  have hown : s.vm.findClass RX3 = some m.cls := findClass_of_methodNamed B.named
  have hlocks := B.notSynchronized
  subst hsz
  have hD := hD0.self (sz := s.heap.size)
  generalize hAe : va_A [(m0, .inr (3, [.int k_paid, .ref ko, .ref kc, .ref w0])), (ko, .inl (kA 0, 6, .inl koF)), (kc, .inl (kA 0, 6, .inl kcF)), (w0, .inr (9, [.ref tnodes, .ref tpasses, .ref tjars, .ref torders, .ref tfeasts, .ref tway, .int tws, .int tnow, .int tfm, .int tx])), (torders, .inr (6, [.int 4, .ref tordersA, .int tordersS])), (tordersA, .inl (kA 0, 24, .inl tordersF))] s.heap.size = A at hD ⊢
  have hA : ∀ q : Nat, s.heap.size ≤ q → A q := zA_of hAe
  have hS : va_S A s.heap s.heap [] := va_S.rf
  have hP : va_P (dC, dI) vwCl [(m0, .inr (3, [.int k_paid, .ref ko, .ref kc, .ref w0])), (ko, .inl (kA 0, 6, .inl koF)), (kc, .inl (kA 0, 6, .inl kcF)), (w0, .inr (9, [.ref tnodes, .ref tpasses, .ref tjars, .ref torders, .ref tfeasts, .ref tway, .int tws, .int tnow, .int tfm, .int tx])), (torders, .inr (6, [.int 4, .ref tordersA, .int tordersS])), (tordersA, .inl (kA 0, 24, .inl tordersF))] s.heap := hP
  have hl := lv_entry ([.ref m0]) (n := 5) (Nat.le_of_ble_eq_true rfl)
  rw [lg_entry_eq]
  generalize (lg_sl ([.ref m0]) ++ List.replicate (5 - (lg_sl ([.ref m0])).length) Slot.unset).toArray = ls at hl ⊢
  have hl : lv_has ls 5 [(0, .ref m0)] := hl
  obtain ⟨H, hHe⟩ : ∃ H : Heap, H = s.heap := ⟨_, rfl⟩
  obtain ⟨G, hG0⟩ : ∃ G : Int32 × (Nat → Int32), fX3_choose koF kcF tordersS tordersF = G := ⟨_, rfl⟩
  have hG := hG0
  unfold fX3_choose at hG
  refine lv_aload_n hx hb dX3_choose_0 rfl (lv_at hl 0 rfl) ?_
  refine lv_aload_n hx hb dX3_choose_1 rfl (lv_at hl 0 rfl) ?_
  refine lv_iconst (v := 0) hx hb dX3_choose_2 (by decide) ?_
  refine lv_iconst (v := 0) hx hb dX3_choose_3 (by decide) ?_
  refine z_i (wr := [(kc, .inl (kA 0, 6, .inl kcF))]) (va_runV (As := [.int 0, .int 0]) (rest := [.ref m0]) ⟨hx, hb, hml, hown, hts⟩ (mX3_greatest l dC dI kA _ m0 k_paid ko kc koF w0 tnodes tpasses tjars torders tordersA tordersS tordersF tfeasts tway tws tnow tfm tx 0 0 ho0 ho6 (by decide) (by decide)) (cwV 2 hts gX3_choose_X3_greatest rfl rfl rfl ⟨rfl, hdX3_greatest⟩ ⟨(Nat.le_of_ble_eq_true rfl), (Nat.le_of_ble_eq_true rfl)⟩) ⟨zPc.blind, va_recv (q := (RX3, TX3, 4)) hK.1 hP (ci := 3) (q0 := 0) rfl rfl, zPre hK (hP.sub [0, 1, 3, 4, 5] rfl) (hD.sub [0, 1, 3, 4, 5] (by decide) rfl)⟩ rfl rfl hl.1 rfl (lv_room (Nat.le_of_ble_eq_true rfl)) dX3_choose_4 ⟨(Nat.le_of_ble_eq_true rfl), (Nat.le_of_ble_eq_true rfl)⟩) hP hD hS hA [0, 1, 3, 4, 5] [2] rfl rfl (by decide) (by decide) (fun r3 u1 H locs hw2 hP hD hS => ?_)
  obtain ⟨er6, hp5⟩ := hw2
  have er6 : r3 = u1 := er6
  subst er6
  have er3 : r3 = fX3_greatest koF tordersS tordersF 0 0 := hp5
  have hG := zbnd hG er3
  obtain ⟨hP, hD⟩ := z_re (L := [(kc, .inl (kA 0, 6, .inl kcF)), (m0, .inr (3, [.int k_paid, .ref ko, .ref kc, .ref w0])), (ko, .inl (kA 0, 6, .inl koF)), (w0, .inr (9, [.ref tnodes, .ref tpasses, .ref tjars, .ref torders, .ref tfeasts, .ref tway, .int tws, .int tnow, .int tfm, .int tx])), (torders, .inr (6, [.int 4, .ref tordersA, .int tordersS])), (tordersA, .inl (kA 0, 24, .inl tordersF))]) hP hD
  refine va_put (D := (dC, dI)) (ci := 3) (v := .int r3) (ty := .int) (C := RX3) (T := TX3) (N := 4) hx hb hts iX3_choose_X3 tyX3 tyX3_ok nmX3 hown hK.1 hP hD hS 1 gz1 vcz3 0 (by decide) (kX3_choose_1 hts) (fun _ h9 => h9) rfl pfdI rfl rfl (Nat.le_of_ble_eq_true rfl) dX3_choose_7 (fun H locs hP hD hS => ?_)
  obtain ⟨hP, hD⟩ := z_re (L := [(kc, .inl (kA 0, 6, .inl kcF)), (m0, .inr (3, [.int r3, .ref ko, .ref kc, .ref w0])), (ko, .inl (kA 0, 6, .inl koF)), (w0, .inr (9, [.ref tnodes, .ref tpasses, .ref tjars, .ref torders, .ref tfeasts, .ref tway, .int tws, .int tnow, .int tfm, .int tx])), (torders, .inr (6, [.int 4, .ref tordersA, .int tordersS])), (tordersA, .inl (kA 0, 24, .inl tordersF))]) hP hD
  refine lv_aload_n hx hb dX3_choose_10 rfl (lv_at hl 0 rfl) ?_
  refine va_get (D := (dC, dI)) (ci := 3) (v := .int r3) (C := RX3) (T := TX3) (N := 4) hx hb hts iX3_choose_X3 hown hK.1 hP 1 gz1 vcz3 0 (by decide) (kX3_choose_1 hts) (fun _ h9 => h9) gz0 dX3_choose_11 ?_
  refine lv_istore_n (lv' := [(1, .int r3), (0, .ref m0)]) hx hb dX3_choose_14 rfl hl (by decide) rfl (fun ls hl => ?_)
  refine lv_iconst (v := 0) hx hb dX3_choose_15 (by decide) ?_
  refine lv_istore_n (lv' := [(2, .int 0), (1, .int r3), (0, .ref m0)]) hx hb dX3_choose_16 rfl hl (by decide) rfl (fun ls hl => ?_)
  refine lv_iconst (v := 0) hx hb dX3_choose_17 (by decide) ?_
  refine lv_istore_n (lv' := [(3, .int 0), (2, .int 0), (1, .int r3), (0, .ref m0)]) hx hb dX3_choose_18 rfl hl (by decide) rfl (fun ls hl => ?_)
  refine lp_mX3_choose_19 hx hb hml hts hown hK hA (Nat.le_of_ble_eq_true rfl) (Nat.le_of_ble_eq_true rfl) (Nat.le_of_ble_eq_true rfl) (Nat.le_of_ble_eq_true rfl) m0 ko kc koF w0 tnodes tpasses tjars torders tordersA tordersS tordersF tfeasts tway tws tnow tfm tx r3 ho0 ho6 (fun w91_0_0 w91_1_0 w91_2_0 w91_3_0 H locs ls hx91_3_nlt00_0 hG hP hD hS hl => ?_) _ kcF 0 0 r3 _ _ ls (Nat.lt_succ_self _) hG (by decide) hP hD hS (lv_sub hl [0, 1, 2, 3] rfl)
  obtain ⟨hP, hD⟩ := z_re (L := [(kc, .inl (kA 0, 6, .inl w91_0_0)), (m0, .inr (3, [.int r3, .ref ko, .ref kc, .ref w0])), (ko, .inl (kA 0, 6, .inl koF)), (w0, .inr (9, [.ref tnodes, .ref tpasses, .ref tjars, .ref torders, .ref tfeasts, .ref tway, .int tws, .int tnow, .int tfm, .int tx])), (torders, .inr (6, [.int 4, .ref tordersA, .int tordersS])), (tordersA, .inl (kA 0, 24, .inl tordersF))]) hP hD
  obtain ⟨hP9, hD9⟩ := z_sb (L' := [(m0, .inr (3, [.int r3, .ref ko, .ref kc, .ref w0])), (ko, .inl (kA 0, 6, .inl koF)), (kc, .inl (kA 0, 6, .inl w91_0_0)), (w0, .inr (9, [.ref tnodes, .ref tpasses, .ref tjars, .ref torders, .ref tfeasts, .ref tway, .int tws, .int tnow, .int tfm, .int tx])), (torders, .inr (6, [.int 4, .ref tordersA, .int tordersS])), (tordersA, .inl (kA 0, 24, .inl tordersF))]) hP hD [1, 2, 0, 3, 4, 5] (by decide) rfl
  refine W.widen (k := 0) (n := 0) (Nat.le_of_ble_eq_true rfl) (Nat.le_of_ble_eq_true rfl) ?_
  exact W.vret hx hb hr (fun t ht hW => ⟨⟨(r3, w91_0_0), rfl, (hG.trans hG0.symm), by rw [ht]; exact hP9, hD9⟩, hS.F ht⟩) hS.2.2 dX3_choose_91

theorem kX3_open_1 {a : Array Value} {s : State} (hts : ∀ w ∈ wsX3_open, w.before a s = true) : (.fieldLink RX3 9 "SnowMules$Market" "offers" "[I" : Cond).before a s = true := hts _ (List.mem_of_getElem? (i := 1) (by decide +kernel))
theorem kX3_offer_1 {a : Array Value} {s : State} (hts : ∀ w ∈ wsX3_offer, w.before a s = true) : (.fieldLink RX3 9 "SnowMules$Market" "offers" "[I" : Cond).before a s = true := hts _ (List.mem_of_getElem? (i := 1) (by decide +kernel))
theorem kX3_jarFor_1 {a : Array Value} {s : State} (hts : ∀ w ∈ wsX3_jarFor, w.before a s = true) : (.fieldLink RX3 18 "SnowMules$Market" "world" "LSnowMules$World;" : Cond).before a s = true := hts _ (List.mem_of_getElem? (i := 1) (by decide +kernel))
theorem kX3_jarFor_2 {a : Array Value} {s : State} (hts : ∀ w ∈ wsX3_jarFor, w.before a s = true) : (.fieldLink RX3 22 "SnowMules$World" "orders" "LSnowMules$Table;" : Cond).before a s = true := hts _ (List.mem_of_getElem? (i := 2) (by decide +kernel))
theorem kX3_jarFor_3 {a : Array Value} {s : State} (hts : ∀ w ∈ wsX3_jarFor, w.before a s = true) : (.fieldLink RX3 15 "SnowMules$Market" "chosen" "[I" : Cond).before a s = true := hts _ (List.mem_of_getElem? (i := 3) (by decide +kernel))
theorem kX3_priceOf_1 {a : Array Value} {s : State} (hts : ∀ w ∈ wsX3_priceOf, w.before a s = true) : (.fieldLink RX3 18 "SnowMules$Market" "world" "LSnowMules$World;" : Cond).before a s = true := hts _ (List.mem_of_getElem? (i := 1) (by decide +kernel))
theorem kX3_priceOf_2 {a : Array Value} {s : State} (hts : ∀ w ∈ wsX3_priceOf, w.before a s = true) : (.fieldLink RX3 22 "SnowMules$World" "orders" "LSnowMules$Table;" : Cond).before a s = true := hts _ (List.mem_of_getElem? (i := 2) (by decide +kernel))
theorem kJ6_bitCount_0f7a4_1 {a : Array Value} {s : State} (hts : ∀ w ∈ wsJ6_bitCount_0f7a4, w.before a s = true) : (.constant RJ6 265 (1431655765) : Cond).before a s = true := hts _ (List.mem_of_getElem? (i := 1) (by decide +kernel))
theorem kJ6_bitCount_0f7a4_2 {a : Array Value} {s : State} (hts : ∀ w ∈ wsJ6_bitCount_0f7a4, w.before a s = true) : (.constant RJ6 266 (858993459) : Cond).before a s = true := hts _ (List.mem_of_getElem? (i := 2) (by decide +kernel))
theorem kJ6_bitCount_0f7a4_3 {a : Array Value} {s : State} (hts : ∀ w ∈ wsJ6_bitCount_0f7a4, w.before a s = true) : (.constant RJ6 267 (252645135) : Cond).before a s = true := hts _ (List.mem_of_getElem? (i := 3) (by decide +kernel))
theorem kX3_canServe_1 {a : Array Value} {s : State} (hts : ∀ w ∈ wsX3_canServe, w.before a s = true) : (.fieldLink RX3 9 "SnowMules$Market" "offers" "[I" : Cond).before a s = true := hts _ (List.mem_of_getElem? (i := 1) (by decide +kernel))
theorem kX3_greatest_1 {a : Array Value} {s : State} (hts : ∀ w ∈ wsX3_greatest, w.before a s = true) : (.fieldLink RX3 18 "SnowMules$Market" "world" "LSnowMules$World;" : Cond).before a s = true := hts _ (List.mem_of_getElem? (i := 1) (by decide +kernel))
theorem kX3_greatest_2 {a : Array Value} {s : State} (hts : ∀ w ∈ wsX3_greatest, w.before a s = true) : (.fieldLink RX3 22 "SnowMules$World" "orders" "LSnowMules$Table;" : Cond).before a s = true := hts _ (List.mem_of_getElem? (i := 2) (by decide +kernel))
theorem kX3_greatest_3 {a : Array Value} {s : State} (hts : ∀ w ∈ wsX3_greatest, w.before a s = true) : (.fieldLink RX3 42 "SnowMules$Table" "size" "I" : Cond).before a s = true := hts _ (List.mem_of_getElem? (i := 3) (by decide +kernel))
theorem kX3_firstJar_1 {a : Array Value} {s : State} (hts : ∀ w ∈ wsX3_firstJar, w.before a s = true) : (.fieldLink RX3 18 "SnowMules$Market" "world" "LSnowMules$World;" : Cond).before a s = true := hts _ (List.mem_of_getElem? (i := 1) (by decide +kernel))
theorem kX3_firstJar_2 {a : Array Value} {s : State} (hts : ∀ w ∈ wsX3_firstJar, w.before a s = true) : (.fieldLink RX3 22 "SnowMules$World" "orders" "LSnowMules$Table;" : Cond).before a s = true := hts _ (List.mem_of_getElem? (i := 2) (by decide +kernel))
theorem kX3_firstJar_3 {a : Array Value} {s : State} (hts : ∀ w ∈ wsX3_firstJar, w.before a s = true) : (.fieldLink RX3 9 "SnowMules$Market" "offers" "[I" : Cond).before a s = true := hts _ (List.mem_of_getElem? (i := 3) (by decide +kernel))
theorem kX3_choose_1 {a : Array Value} {s : State} (hts : ∀ w ∈ wsX3_choose, w.before a s = true) : (.fieldLink RX3 38 "SnowMules$Market" "paid" "I" : Cond).before a s = true := hts _ (List.mem_of_getElem? (i := 1) (by decide +kernel))
theorem kX3_choose_2 {a : Array Value} {s : State} (hts : ∀ w ∈ wsX3_choose, w.before a s = true) : (.fieldLink RX3 18 "SnowMules$Market" "world" "LSnowMules$World;" : Cond).before a s = true := hts _ (List.mem_of_getElem? (i := 2) (by decide +kernel))
theorem kX3_choose_3 {a : Array Value} {s : State} (hts : ∀ w ∈ wsX3_choose, w.before a s = true) : (.fieldLink RX3 22 "SnowMules$World" "orders" "LSnowMules$Table;" : Cond).before a s = true := hts _ (List.mem_of_getElem? (i := 3) (by decide +kernel))
theorem kX3_choose_4 {a : Array Value} {s : State} (hts : ∀ w ∈ wsX3_choose, w.before a s = true) : (.fieldLink RX3 42 "SnowMules$Table" "size" "I" : Cond).before a s = true := hts _ (List.mem_of_getElem? (i := 4) (by decide +kernel))
theorem kX3_choose_5 {a : Array Value} {s : State} (hts : ∀ w ∈ wsX3_choose, w.before a s = true) : (.fieldLink RX3 15 "SnowMules$Market" "chosen" "[I" : Cond).before a s = true := hts _ (List.mem_of_getElem? (i := 5) (by decide +kernel))
theorem iX3_open_X3 : ∀ w ∈ wsX30, w ∈ wsX3_open := by decide +kernel
theorem iX3_offer_X3 : ∀ w ∈ wsX30, w ∈ wsX3_offer := by decide +kernel
theorem iX3_jarFor_X3 : ∀ w ∈ wsX30, w ∈ wsX3_jarFor := by decide +kernel
theorem iX3_jarFor_X9 : ∀ w ∈ wsX90, w ∈ wsX3_jarFor := by decide +kernel
theorem iX3_priceOf_X3 : ∀ w ∈ wsX30, w ∈ wsX3_priceOf := by decide +kernel
theorem iX3_priceOf_X9 : ∀ w ∈ wsX90, w ∈ wsX3_priceOf := by decide +kernel
theorem iX3_canServe_X3 : ∀ w ∈ wsX30, w ∈ wsX3_canServe := by decide +kernel
theorem iX3_greatest_X3 : ∀ w ∈ wsX30, w ∈ wsX3_greatest := by decide +kernel
theorem iX3_greatest_X9 : ∀ w ∈ wsX90, w ∈ wsX3_greatest := by decide +kernel
theorem iX3_greatest_X6 : ∀ w ∈ wsX60, w ∈ wsX3_greatest := by decide +kernel
theorem iX3_firstJar_X3 : ∀ w ∈ wsX30, w ∈ wsX3_firstJar := by decide +kernel
theorem iX3_firstJar_X9 : ∀ w ∈ wsX90, w ∈ wsX3_firstJar := by decide +kernel
theorem iX3_choose_X3 : ∀ w ∈ wsX30, w ∈ wsX3_choose := by decide +kernel
theorem iX3_choose_X9 : ∀ w ∈ wsX90, w ∈ wsX3_choose := by decide +kernel
theorem iX3_choose_X6 : ∀ w ∈ wsX60, w ∈ wsX3_choose := by decide +kernel
theorem dX3_open_0 : decode cX3_open 0 = .ok (.iconst 0, 1) := by decide +kernel
theorem dX3_open_1 : decode cX3_open 1 = .ok (.istore_n 1, 1) := by decide +kernel
theorem dX3_open_2 : decode cX3_open 2 = .ok (.iload_n 1, 1) := by decide +kernel
theorem dX3_open_3 : decode cX3_open 3 = .ok (.bipush 6, 2) := by decide +kernel
theorem dX3_open_5 : decode cX3_open 5 = .ok (.if_icmp .ge 16, 3) := by decide +kernel
theorem dX3_open_8 : decode cX3_open 8 = .ok (.aload_n 0, 1) := by decide +kernel
theorem dX3_open_9 : decode cX3_open 9 = .ok (.getfield 9, 3) := by decide +kernel
theorem dX3_open_12 : decode cX3_open 12 = .ok (.iload_n 1, 1) := by decide +kernel
theorem dX3_open_13 : decode cX3_open 13 = .ok (.iconst 0, 1) := by decide +kernel
theorem dX3_open_14 : decode cX3_open 14 = .ok (.iastore, 1) := by decide +kernel
theorem dX3_open_15 : decode cX3_open 15 = .ok (.iinc 1 1, 3) := by decide +kernel
theorem dX3_open_18 : decode cX3_open 18 = .ok (.goto (-16), 3) := by decide +kernel
theorem dX3_open_21 : decode cX3_open 21 = .ok (.return_, 1) := by decide +kernel
theorem dX3_offer_0 : decode cX3_offer 0 = .ok (.iload_n 2, 1) := by decide +kernel
theorem dX3_offer_1 : decode cX3_offer 1 = .ok (.ifCond .lt 21, 3) := by decide +kernel
theorem dX3_offer_22 : decode cX3_offer 22 = .ok (.return_, 1) := by decide +kernel
theorem dX3_offer_4 : decode cX3_offer 4 = .ok (.iload_n 2, 1) := by decide +kernel
theorem dX3_offer_5 : decode cX3_offer 5 = .ok (.bipush 6, 2) := by decide +kernel
theorem dX3_offer_7 : decode cX3_offer 7 = .ok (.if_icmp .ge 15, 3) := by decide +kernel
theorem dX3_offer_10 : decode cX3_offer 10 = .ok (.aload_n 0, 1) := by decide +kernel
theorem dX3_offer_11 : decode cX3_offer 11 = .ok (.getfield 9, 3) := by decide +kernel
theorem dX3_offer_14 : decode cX3_offer 14 = .ok (.iload_n 2, 1) := by decide +kernel
theorem dX3_offer_15 : decode cX3_offer 15 = .ok (.dup2, 1) := by decide +kernel
theorem dX3_offer_16 : decode cX3_offer 16 = .ok (.iaload, 1) := by decide +kernel
theorem dX3_offer_17 : decode cX3_offer 17 = .ok (.iconst 1, 1) := by decide +kernel
theorem dX3_offer_18 : decode cX3_offer 18 = .ok (.iload_n 1, 1) := by decide +kernel
theorem dX3_offer_19 : decode cX3_offer 19 = .ok (.ishl, 1) := by decide +kernel
theorem dX3_offer_20 : decode cX3_offer 20 = .ok (.ior, 1) := by decide +kernel
theorem dX3_offer_21 : decode cX3_offer 21 = .ok (.iastore, 1) := by decide +kernel
theorem dX3_jarFor_0 : decode cX3_jarFor 0 = .ok (.aload_n 0, 1) := by decide +kernel
theorem dX3_jarFor_1 : decode cX3_jarFor 1 = .ok (.getfield 18, 3) := by decide +kernel
theorem dX3_jarFor_4 : decode cX3_jarFor 4 = .ok (.getfield 22, 3) := by decide +kernel
theorem dX3_jarFor_7 : decode cX3_jarFor 7 = .ok (.iload_n 1, 1) := by decide +kernel
theorem dX3_jarFor_8 : decode cX3_jarFor 8 = .ok (.invokevirtual 28, 3) := by decide +kernel
theorem dX3_jarFor_11 : decode cX3_jarFor 11 = .ok (.ifCond .eq 18, 3) := by decide +kernel
theorem dX3_jarFor_29 : decode cX3_jarFor 29 = .ok (.bipush (-2), 2) := by decide +kernel
theorem dX3_jarFor_31 : decode cX3_jarFor 31 = .ok (.ireturn, 1) := by decide +kernel
theorem dX3_jarFor_14 : decode cX3_jarFor 14 = .ok (.iload_n 1, 1) := by decide +kernel
theorem dX3_jarFor_15 : decode cX3_jarFor 15 = .ok (.bipush 6, 2) := by decide +kernel
theorem dX3_jarFor_17 : decode cX3_jarFor 17 = .ok (.if_icmp .ge 12, 3) := by decide +kernel
theorem dX3_jarFor_20 : decode cX3_jarFor 20 = .ok (.aload_n 0, 1) := by decide +kernel
theorem dX3_jarFor_21 : decode cX3_jarFor 21 = .ok (.getfield 15, 3) := by decide +kernel
theorem dX3_jarFor_24 : decode cX3_jarFor 24 = .ok (.iload_n 1, 1) := by decide +kernel
theorem dX3_jarFor_25 : decode cX3_jarFor 25 = .ok (.iaload, 1) := by decide +kernel
theorem dX3_jarFor_26 : decode cX3_jarFor 26 = .ok (.goto 5, 3) := by decide +kernel
theorem dX3_priceOf_0 : decode cX3_priceOf 0 = .ok (.iconst 0, 1) := by decide +kernel
theorem dX3_priceOf_1 : decode cX3_priceOf 1 = .ok (.istore_n 2, 1) := by decide +kernel
theorem dX3_priceOf_2 : decode cX3_priceOf 2 = .ok (.iconst 0, 1) := by decide +kernel
theorem dX3_priceOf_3 : decode cX3_priceOf 3 = .ok (.istore_n 3, 1) := by decide +kernel
theorem dX3_priceOf_4 : decode cX3_priceOf 4 = .ok (.iload_n 3, 1) := by decide +kernel
theorem dX3_priceOf_5 : decode cX3_priceOf 5 = .ok (.bipush 6, 2) := by decide +kernel
theorem dX3_priceOf_7 : decode cX3_priceOf 7 = .ok (.if_icmp .ge 33, 3) := by decide +kernel
theorem dX3_priceOf_10 : decode cX3_priceOf 10 = .ok (.iload_n 1, 1) := by decide +kernel
theorem dX3_priceOf_11 : decode cX3_priceOf 11 = .ok (.iload_n 3, 1) := by decide +kernel
theorem dX3_priceOf_12 : decode cX3_priceOf 12 = .ok (.ishr, 1) := by decide +kernel
theorem dX3_priceOf_13 : decode cX3_priceOf 13 = .ok (.iconst 1, 1) := by decide +kernel
theorem dX3_priceOf_14 : decode cX3_priceOf 14 = .ok (.iand, 1) := by decide +kernel
theorem dX3_priceOf_15 : decode cX3_priceOf 15 = .ok (.iconst 1, 1) := by decide +kernel
theorem dX3_priceOf_16 : decode cX3_priceOf 16 = .ok (.if_icmp .ne 18, 3) := by decide +kernel
theorem dX3_priceOf_34 : decode cX3_priceOf 34 = .ok (.iinc 3 1, 3) := by decide +kernel
theorem dX3_priceOf_37 : decode cX3_priceOf 37 = .ok (.goto (-33), 3) := by decide +kernel
theorem dX3_priceOf_19 : decode cX3_priceOf 19 = .ok (.iload_n 2, 1) := by decide +kernel
theorem dX3_priceOf_20 : decode cX3_priceOf 20 = .ok (.aload_n 0, 1) := by decide +kernel
theorem dX3_priceOf_21 : decode cX3_priceOf 21 = .ok (.getfield 18, 3) := by decide +kernel
theorem dX3_priceOf_24 : decode cX3_priceOf 24 = .ok (.getfield 22, 3) := by decide +kernel
theorem dX3_priceOf_27 : decode cX3_priceOf 27 = .ok (.iload_n 3, 1) := by decide +kernel
theorem dX3_priceOf_28 : decode cX3_priceOf 28 = .ok (.iconst 3, 1) := by decide +kernel
theorem dX3_priceOf_29 : decode cX3_priceOf 29 = .ok (.invokevirtual 49, 3) := by decide +kernel
theorem dX3_priceOf_32 : decode cX3_priceOf 32 = .ok (.iadd, 1) := by decide +kernel
theorem dX3_priceOf_33 : decode cX3_priceOf 33 = .ok (.istore_n 2, 1) := by decide +kernel
theorem dX3_priceOf_40 : decode cX3_priceOf 40 = .ok (.iload_n 2, 1) := by decide +kernel
theorem dX3_priceOf_41 : decode cX3_priceOf 41 = .ok (.ireturn, 1) := by decide +kernel
theorem dJ6_bitCount_0f7a4_0 : decode cJ6_bitCount_0f7a4 0 = .ok (.iload_n 0, 1) := by decide +kernel
theorem dJ6_bitCount_0f7a4_1 : decode cJ6_bitCount_0f7a4 1 = .ok (.iload_n 0, 1) := by decide +kernel
theorem dJ6_bitCount_0f7a4_2 : decode cJ6_bitCount_0f7a4 2 = .ok (.iconst 1, 1) := by decide +kernel
theorem dJ6_bitCount_0f7a4_3 : decode cJ6_bitCount_0f7a4 3 = .ok (.iushr, 1) := by decide +kernel
theorem dJ6_bitCount_0f7a4_4 : decode cJ6_bitCount_0f7a4 4 = .ok (.ldc_w 265, 3) := by decide +kernel
theorem dJ6_bitCount_0f7a4_7 : decode cJ6_bitCount_0f7a4 7 = .ok (.iand, 1) := by decide +kernel
theorem dJ6_bitCount_0f7a4_8 : decode cJ6_bitCount_0f7a4 8 = .ok (.isub, 1) := by decide +kernel
theorem dJ6_bitCount_0f7a4_9 : decode cJ6_bitCount_0f7a4 9 = .ok (.istore_n 0, 1) := by decide +kernel
theorem dJ6_bitCount_0f7a4_10 : decode cJ6_bitCount_0f7a4 10 = .ok (.iload_n 0, 1) := by decide +kernel
theorem dJ6_bitCount_0f7a4_11 : decode cJ6_bitCount_0f7a4 11 = .ok (.ldc_w 266, 3) := by decide +kernel
theorem dJ6_bitCount_0f7a4_14 : decode cJ6_bitCount_0f7a4 14 = .ok (.iand, 1) := by decide +kernel
theorem dJ6_bitCount_0f7a4_15 : decode cJ6_bitCount_0f7a4 15 = .ok (.iload_n 0, 1) := by decide +kernel
theorem dJ6_bitCount_0f7a4_16 : decode cJ6_bitCount_0f7a4 16 = .ok (.iconst 2, 1) := by decide +kernel
theorem dJ6_bitCount_0f7a4_17 : decode cJ6_bitCount_0f7a4 17 = .ok (.iushr, 1) := by decide +kernel
theorem dJ6_bitCount_0f7a4_18 : decode cJ6_bitCount_0f7a4 18 = .ok (.ldc_w 266, 3) := by decide +kernel
theorem dJ6_bitCount_0f7a4_21 : decode cJ6_bitCount_0f7a4 21 = .ok (.iand, 1) := by decide +kernel
theorem dJ6_bitCount_0f7a4_22 : decode cJ6_bitCount_0f7a4 22 = .ok (.iadd, 1) := by decide +kernel
theorem dJ6_bitCount_0f7a4_23 : decode cJ6_bitCount_0f7a4 23 = .ok (.istore_n 0, 1) := by decide +kernel
theorem dJ6_bitCount_0f7a4_24 : decode cJ6_bitCount_0f7a4 24 = .ok (.iload_n 0, 1) := by decide +kernel
theorem dJ6_bitCount_0f7a4_25 : decode cJ6_bitCount_0f7a4 25 = .ok (.iload_n 0, 1) := by decide +kernel
theorem dJ6_bitCount_0f7a4_26 : decode cJ6_bitCount_0f7a4 26 = .ok (.iconst 4, 1) := by decide +kernel
theorem dJ6_bitCount_0f7a4_27 : decode cJ6_bitCount_0f7a4 27 = .ok (.iushr, 1) := by decide +kernel
theorem dJ6_bitCount_0f7a4_28 : decode cJ6_bitCount_0f7a4 28 = .ok (.iadd, 1) := by decide +kernel
theorem dJ6_bitCount_0f7a4_29 : decode cJ6_bitCount_0f7a4 29 = .ok (.ldc_w 267, 3) := by decide +kernel
theorem dJ6_bitCount_0f7a4_32 : decode cJ6_bitCount_0f7a4 32 = .ok (.iand, 1) := by decide +kernel
theorem dJ6_bitCount_0f7a4_33 : decode cJ6_bitCount_0f7a4 33 = .ok (.istore_n 0, 1) := by decide +kernel
theorem dJ6_bitCount_0f7a4_34 : decode cJ6_bitCount_0f7a4 34 = .ok (.iload_n 0, 1) := by decide +kernel
theorem dJ6_bitCount_0f7a4_35 : decode cJ6_bitCount_0f7a4 35 = .ok (.iload_n 0, 1) := by decide +kernel
theorem dJ6_bitCount_0f7a4_36 : decode cJ6_bitCount_0f7a4 36 = .ok (.bipush 8, 2) := by decide +kernel
theorem dJ6_bitCount_0f7a4_38 : decode cJ6_bitCount_0f7a4 38 = .ok (.iushr, 1) := by decide +kernel
theorem dJ6_bitCount_0f7a4_39 : decode cJ6_bitCount_0f7a4 39 = .ok (.iadd, 1) := by decide +kernel
theorem dJ6_bitCount_0f7a4_40 : decode cJ6_bitCount_0f7a4 40 = .ok (.istore_n 0, 1) := by decide +kernel
theorem dJ6_bitCount_0f7a4_41 : decode cJ6_bitCount_0f7a4 41 = .ok (.iload_n 0, 1) := by decide +kernel
theorem dJ6_bitCount_0f7a4_42 : decode cJ6_bitCount_0f7a4 42 = .ok (.iload_n 0, 1) := by decide +kernel
theorem dJ6_bitCount_0f7a4_43 : decode cJ6_bitCount_0f7a4 43 = .ok (.bipush 16, 2) := by decide +kernel
theorem dJ6_bitCount_0f7a4_45 : decode cJ6_bitCount_0f7a4 45 = .ok (.iushr, 1) := by decide +kernel
theorem dJ6_bitCount_0f7a4_46 : decode cJ6_bitCount_0f7a4 46 = .ok (.iadd, 1) := by decide +kernel
theorem dJ6_bitCount_0f7a4_47 : decode cJ6_bitCount_0f7a4 47 = .ok (.istore_n 0, 1) := by decide +kernel
theorem dJ6_bitCount_0f7a4_48 : decode cJ6_bitCount_0f7a4 48 = .ok (.iload_n 0, 1) := by decide +kernel
theorem dJ6_bitCount_0f7a4_49 : decode cJ6_bitCount_0f7a4 49 = .ok (.bipush 63, 2) := by decide +kernel
theorem dJ6_bitCount_0f7a4_51 : decode cJ6_bitCount_0f7a4 51 = .ok (.iand, 1) := by decide +kernel
theorem dJ6_bitCount_0f7a4_52 : decode cJ6_bitCount_0f7a4 52 = .ok (.ireturn, 1) := by decide +kernel
theorem dX3_canServe_0 : decode cX3_canServe 0 = .ok (.iload_n 1, 1) := by decide +kernel
theorem dX3_canServe_1 : decode cX3_canServe 1 = .ok (.istore_n 3, 1) := by decide +kernel
theorem dX3_canServe_2 : decode cX3_canServe 2 = .ok (.iload_n 3, 1) := by decide +kernel
theorem dX3_canServe_3 : decode cX3_canServe 3 = .ok (.ifCond .le 71, 3) := by decide +kernel
theorem dX3_canServe_6 : decode cX3_canServe 6 = .ok (.iconst 0, 1) := by decide +kernel
theorem dX3_canServe_7 : decode cX3_canServe 7 = .ok (.istore 4, 2) := by decide +kernel
theorem dX3_canServe_9 : decode cX3_canServe 9 = .ok (.iconst 0, 1) := by decide +kernel
theorem dX3_canServe_10 : decode cX3_canServe 10 = .ok (.istore 5, 2) := by decide +kernel
theorem dX3_canServe_12 : decode cX3_canServe 12 = .ok (.iload 5, 2) := by decide +kernel
theorem dX3_canServe_14 : decode cX3_canServe 14 = .ok (.bipush 6, 2) := by decide +kernel
theorem dX3_canServe_16 : decode cX3_canServe 16 = .ok (.if_icmp .ge 31, 3) := by decide +kernel
theorem dX3_canServe_19 : decode cX3_canServe 19 = .ok (.iload_n 3, 1) := by decide +kernel
theorem dX3_canServe_20 : decode cX3_canServe 20 = .ok (.iload 5, 2) := by decide +kernel
theorem dX3_canServe_22 : decode cX3_canServe 22 = .ok (.ishr, 1) := by decide +kernel
theorem dX3_canServe_23 : decode cX3_canServe 23 = .ok (.iconst 1, 1) := by decide +kernel
theorem dX3_canServe_24 : decode cX3_canServe 24 = .ok (.iand, 1) := by decide +kernel
theorem dX3_canServe_25 : decode cX3_canServe 25 = .ok (.iconst 1, 1) := by decide +kernel
theorem dX3_canServe_26 : decode cX3_canServe 26 = .ok (.if_icmp .ne 15, 3) := by decide +kernel
theorem dX3_canServe_41 : decode cX3_canServe 41 = .ok (.iinc 5 1, 3) := by decide +kernel
theorem dX3_canServe_44 : decode cX3_canServe 44 = .ok (.goto (-32), 3) := by decide +kernel
theorem dX3_canServe_29 : decode cX3_canServe 29 = .ok (.iload 4, 2) := by decide +kernel
theorem dX3_canServe_31 : decode cX3_canServe 31 = .ok (.aload_n 0, 1) := by decide +kernel
theorem dX3_canServe_32 : decode cX3_canServe 32 = .ok (.getfield 9, 3) := by decide +kernel
theorem dX3_canServe_35 : decode cX3_canServe 35 = .ok (.iload 5, 2) := by decide +kernel
theorem dX3_canServe_37 : decode cX3_canServe 37 = .ok (.iaload, 1) := by decide +kernel
theorem dX3_canServe_38 : decode cX3_canServe 38 = .ok (.ior, 1) := by decide +kernel
theorem dX3_canServe_39 : decode cX3_canServe 39 = .ok (.istore 4, 2) := by decide +kernel
theorem dX3_canServe_74 : decode cX3_canServe 74 = .ok (.iconst 1, 1) := by decide +kernel
theorem dX3_canServe_75 : decode cX3_canServe 75 = .ok (.ireturn, 1) := by decide +kernel
theorem dX3_canServe_47 : decode cX3_canServe 47 = .ok (.iload 4, 2) := by decide +kernel
theorem dX3_canServe_49 : decode cX3_canServe 49 = .ok (.iload_n 2, 1) := by decide +kernel
theorem dX3_canServe_50 : decode cX3_canServe 50 = .ok (.iconst (-1), 1) := by decide +kernel
theorem dX3_canServe_51 : decode cX3_canServe 51 = .ok (.ixor, 1) := by decide +kernel
theorem dX3_canServe_52 : decode cX3_canServe 52 = .ok (.iand, 1) := by decide +kernel
theorem dX3_canServe_53 : decode cX3_canServe 53 = .ok (.invokestatic 60, 3) := by decide +kernel
theorem dX3_canServe_56 : decode cX3_canServe 56 = .ok (.iload_n 3, 1) := by decide +kernel
theorem dX3_canServe_57 : decode cX3_canServe 57 = .ok (.invokestatic 60, 3) := by decide +kernel
theorem dX3_canServe_60 : decode cX3_canServe 60 = .ok (.if_icmp .ge 5, 3) := by decide +kernel
theorem dX3_canServe_65 : decode cX3_canServe 65 = .ok (.iload_n 3, 1) := by decide +kernel
theorem dX3_canServe_66 : decode cX3_canServe 66 = .ok (.iconst 1, 1) := by decide +kernel
theorem dX3_canServe_67 : decode cX3_canServe 67 = .ok (.isub, 1) := by decide +kernel
theorem dX3_canServe_68 : decode cX3_canServe 68 = .ok (.iload_n 1, 1) := by decide +kernel
theorem dX3_canServe_69 : decode cX3_canServe 69 = .ok (.iand, 1) := by decide +kernel
theorem dX3_canServe_70 : decode cX3_canServe 70 = .ok (.istore_n 3, 1) := by decide +kernel
theorem dX3_canServe_71 : decode cX3_canServe 71 = .ok (.goto (-69), 3) := by decide +kernel
theorem dX3_canServe_63 : decode cX3_canServe 63 = .ok (.iconst 0, 1) := by decide +kernel
theorem dX3_canServe_64 : decode cX3_canServe 64 = .ok (.ireturn, 1) := by decide +kernel
theorem dX3_greatest_0 : decode cX3_greatest 0 = .ok (.iconst 0, 1) := by decide +kernel
theorem dX3_greatest_1 : decode cX3_greatest 1 = .ok (.istore_n 3, 1) := by decide +kernel
theorem dX3_greatest_2 : decode cX3_greatest 2 = .ok (.iconst 1, 1) := by decide +kernel
theorem dX3_greatest_3 : decode cX3_greatest 3 = .ok (.aload_n 0, 1) := by decide +kernel
theorem dX3_greatest_4 : decode cX3_greatest 4 = .ok (.getfield 18, 3) := by decide +kernel
theorem dX3_greatest_7 : decode cX3_greatest 7 = .ok (.getfield 22, 3) := by decide +kernel
theorem dX3_greatest_10 : decode cX3_greatest 10 = .ok (.getfield 42, 3) := by decide +kernel
theorem dX3_greatest_13 : decode cX3_greatest 13 = .ok (.ishl, 1) := by decide +kernel
theorem dX3_greatest_14 : decode cX3_greatest 14 = .ok (.istore 4, 2) := by decide +kernel
theorem dX3_greatest_16 : decode cX3_greatest 16 = .ok (.iconst 0, 1) := by decide +kernel
theorem dX3_greatest_17 : decode cX3_greatest 17 = .ok (.istore 5, 2) := by decide +kernel
theorem dX3_greatest_19 : decode cX3_greatest 19 = .ok (.iload 5, 2) := by decide +kernel
theorem dX3_greatest_21 : decode cX3_greatest 21 = .ok (.iload 4, 2) := by decide +kernel
theorem dX3_greatest_23 : decode cX3_greatest 23 = .ok (.if_icmp .ge 41, 3) := by decide +kernel
theorem dX3_greatest_26 : decode cX3_greatest 26 = .ok (.aload_n 0, 1) := by decide +kernel
theorem dX3_greatest_27 : decode cX3_greatest 27 = .ok (.iload 5, 2) := by decide +kernel
theorem dX3_greatest_29 : decode cX3_greatest 29 = .ok (.invokevirtual 52, 3) := by decide +kernel
theorem dX3_greatest_32 : decode cX3_greatest 32 = .ok (.istore 6, 2) := by decide +kernel
theorem dX3_greatest_34 : decode cX3_greatest 34 = .ok (.iload 6, 2) := by decide +kernel
theorem dX3_greatest_36 : decode cX3_greatest 36 = .ok (.iload_n 3, 1) := by decide +kernel
theorem dX3_greatest_37 : decode cX3_greatest 37 = .ok (.if_icmp .le 16, 3) := by decide +kernel
theorem dX3_greatest_53 : decode cX3_greatest 53 = .ok (.iload 5, 2) := by decide +kernel
theorem dX3_greatest_55 : decode cX3_greatest 55 = .ok (.iconst 1, 1) := by decide +kernel
theorem dX3_greatest_56 : decode cX3_greatest 56 = .ok (.iload_n 1, 1) := by decide +kernel
theorem dX3_greatest_57 : decode cX3_greatest 57 = .ok (.ishl, 1) := by decide +kernel
theorem dX3_greatest_58 : decode cX3_greatest 58 = .ok (.iadd, 1) := by decide +kernel
theorem dX3_greatest_59 : decode cX3_greatest 59 = .ok (.istore 5, 2) := by decide +kernel
theorem dX3_greatest_61 : decode cX3_greatest 61 = .ok (.goto (-42), 3) := by decide +kernel
theorem dX3_greatest_40 : decode cX3_greatest 40 = .ok (.aload_n 0, 1) := by decide +kernel
theorem dX3_greatest_41 : decode cX3_greatest 41 = .ok (.iload 5, 2) := by decide +kernel
theorem dX3_greatest_43 : decode cX3_greatest 43 = .ok (.iload_n 2, 1) := by decide +kernel
theorem dX3_greatest_44 : decode cX3_greatest 44 = .ok (.invokevirtual 56, 3) := by decide +kernel
theorem dX3_greatest_47 : decode cX3_greatest 47 = .ok (.ifCond .eq 6, 3) := by decide +kernel
theorem dX3_greatest_50 : decode cX3_greatest 50 = .ok (.iload 6, 2) := by decide +kernel
theorem dX3_greatest_52 : decode cX3_greatest 52 = .ok (.istore_n 3, 1) := by decide +kernel
theorem dX3_greatest_64 : decode cX3_greatest 64 = .ok (.iload_n 3, 1) := by decide +kernel
theorem dX3_greatest_65 : decode cX3_greatest 65 = .ok (.ireturn, 1) := by decide +kernel
theorem dX3_firstJar_0 : decode cX3_firstJar 0 = .ok (.iload_n 3, 1) := by decide +kernel
theorem dX3_firstJar_1 : decode cX3_firstJar 1 = .ok (.aload_n 0, 1) := by decide +kernel
theorem dX3_firstJar_2 : decode cX3_firstJar 2 = .ok (.getfield 18, 3) := by decide +kernel
theorem dX3_firstJar_5 : decode cX3_firstJar 5 = .ok (.getfield 22, 3) := by decide +kernel
theorem dX3_firstJar_8 : decode cX3_firstJar 8 = .ok (.iload_n 1, 1) := by decide +kernel
theorem dX3_firstJar_9 : decode cX3_firstJar 9 = .ok (.iconst 3, 1) := by decide +kernel
theorem dX3_firstJar_10 : decode cX3_firstJar 10 = .ok (.invokevirtual 49, 3) := by decide +kernel
theorem dX3_firstJar_13 : decode cX3_firstJar 13 = .ok (.isub, 1) := by decide +kernel
theorem dX3_firstJar_14 : decode cX3_firstJar 14 = .ok (.istore 4, 2) := by decide +kernel
theorem dX3_firstJar_16 : decode cX3_firstJar 16 = .ok (.iconst 0, 1) := by decide +kernel
theorem dX3_firstJar_17 : decode cX3_firstJar 17 = .ok (.istore 5, 2) := by decide +kernel
theorem dX3_firstJar_19 : decode cX3_firstJar 19 = .ok (.iload 5, 2) := by decide +kernel
theorem dX3_firstJar_21 : decode cX3_firstJar 21 = .ok (.bipush 16, 2) := by decide +kernel
theorem dX3_firstJar_23 : decode cX3_firstJar 23 = .ok (.if_icmp .ge 68, 3) := by decide +kernel
theorem dX3_firstJar_26 : decode cX3_firstJar 26 = .ok (.iconst 1, 1) := by decide +kernel
theorem dX3_firstJar_27 : decode cX3_firstJar 27 = .ok (.iload 5, 2) := by decide +kernel
theorem dX3_firstJar_29 : decode cX3_firstJar 29 = .ok (.ishl, 1) := by decide +kernel
theorem dX3_firstJar_30 : decode cX3_firstJar 30 = .ok (.istore 6, 2) := by decide +kernel
theorem dX3_firstJar_32 : decode cX3_firstJar 32 = .ok (.iload_n 1, 1) := by decide +kernel
theorem dX3_firstJar_33 : decode cX3_firstJar 33 = .ok (.bipush 6, 2) := by decide +kernel
theorem dX3_firstJar_35 : decode cX3_firstJar 35 = .ok (.if_icmp .ge 23, 3) := by decide +kernel
theorem dX3_firstJar_58 : decode cX3_firstJar 58 = .ok (.iconst 0, 1) := by decide +kernel
theorem dX3_firstJar_59 : decode cX3_firstJar 59 = .ok (.istore 7, 2) := by decide +kernel
theorem dX3_firstJar_61 : decode cX3_firstJar 61 = .ok (.iload 7, 2) := by decide +kernel
theorem dX3_firstJar_63 : decode cX3_firstJar 63 = .ok (.ifCond .eq 22, 3) := by decide +kernel
theorem dX3_firstJar_85 : decode cX3_firstJar 85 = .ok (.iinc 5 1, 3) := by decide +kernel
theorem dX3_firstJar_88 : decode cX3_firstJar 88 = .ok (.goto (-69), 3) := by decide +kernel
theorem dX3_firstJar_38 : decode cX3_firstJar 38 = .ok (.aload_n 0, 1) := by decide +kernel
theorem dX3_firstJar_39 : decode cX3_firstJar 39 = .ok (.getfield 9, 3) := by decide +kernel
theorem dX3_firstJar_42 : decode cX3_firstJar 42 = .ok (.iload_n 1, 1) := by decide +kernel
theorem dX3_firstJar_43 : decode cX3_firstJar 43 = .ok (.iaload, 1) := by decide +kernel
theorem dX3_firstJar_44 : decode cX3_firstJar 44 = .ok (.iload 6, 2) := by decide +kernel
theorem dX3_firstJar_46 : decode cX3_firstJar 46 = .ok (.iand, 1) := by decide +kernel
theorem dX3_firstJar_47 : decode cX3_firstJar 47 = .ok (.iload_n 2, 1) := by decide +kernel
theorem dX3_firstJar_48 : decode cX3_firstJar 48 = .ok (.iconst (-1), 1) := by decide +kernel
theorem dX3_firstJar_49 : decode cX3_firstJar 49 = .ok (.ixor, 1) := by decide +kernel
theorem dX3_firstJar_50 : decode cX3_firstJar 50 = .ok (.iand, 1) := by decide +kernel
theorem dX3_firstJar_51 : decode cX3_firstJar 51 = .ok (.ifCond .eq 7, 3) := by decide +kernel
theorem dX3_firstJar_54 : decode cX3_firstJar 54 = .ok (.iconst 1, 1) := by decide +kernel
theorem dX3_firstJar_55 : decode cX3_firstJar 55 = .ok (.goto 4, 3) := by decide +kernel
theorem dX3_firstJar_66 : decode cX3_firstJar 66 = .ok (.aload_n 0, 1) := by decide +kernel
theorem dX3_firstJar_67 : decode cX3_firstJar 67 = .ok (.iload_n 1, 1) := by decide +kernel
theorem dX3_firstJar_68 : decode cX3_firstJar 68 = .ok (.iconst 1, 1) := by decide +kernel
theorem dX3_firstJar_69 : decode cX3_firstJar 69 = .ok (.iadd, 1) := by decide +kernel
theorem dX3_firstJar_70 : decode cX3_firstJar 70 = .ok (.iload_n 2, 1) := by decide +kernel
theorem dX3_firstJar_71 : decode cX3_firstJar 71 = .ok (.iload 6, 2) := by decide +kernel
theorem dX3_firstJar_73 : decode cX3_firstJar 73 = .ok (.ior, 1) := by decide +kernel
theorem dX3_firstJar_74 : decode cX3_firstJar 74 = .ok (.invokevirtual 34, 3) := by decide +kernel
theorem dX3_firstJar_77 : decode cX3_firstJar 77 = .ok (.iload 4, 2) := by decide +kernel
theorem dX3_firstJar_79 : decode cX3_firstJar 79 = .ok (.if_icmp .ne 6, 3) := by decide +kernel
theorem dX3_firstJar_82 : decode cX3_firstJar 82 = .ok (.iload 5, 2) := by decide +kernel
theorem dX3_firstJar_84 : decode cX3_firstJar 84 = .ok (.ireturn, 1) := by decide +kernel
theorem dX3_firstJar_91 : decode cX3_firstJar 91 = .ok (.bipush 16, 2) := by decide +kernel
theorem dX3_firstJar_93 : decode cX3_firstJar 93 = .ok (.ireturn, 1) := by decide +kernel
theorem dX3_choose_0 : decode cX3_choose 0 = .ok (.aload_n 0, 1) := by decide +kernel
theorem dX3_choose_1 : decode cX3_choose 1 = .ok (.aload_n 0, 1) := by decide +kernel
theorem dX3_choose_2 : decode cX3_choose 2 = .ok (.iconst 0, 1) := by decide +kernel
theorem dX3_choose_3 : decode cX3_choose 3 = .ok (.iconst 0, 1) := by decide +kernel
theorem dX3_choose_4 : decode cX3_choose 4 = .ok (.invokevirtual 34, 3) := by decide +kernel
theorem dX3_choose_7 : decode cX3_choose 7 = .ok (.putfield 38, 3) := by decide +kernel
theorem dX3_choose_10 : decode cX3_choose 10 = .ok (.aload_n 0, 1) := by decide +kernel
theorem dX3_choose_11 : decode cX3_choose 11 = .ok (.getfield 38, 3) := by decide +kernel
theorem dX3_choose_14 : decode cX3_choose 14 = .ok (.istore_n 1, 1) := by decide +kernel
theorem dX3_choose_15 : decode cX3_choose 15 = .ok (.iconst 0, 1) := by decide +kernel
theorem dX3_choose_16 : decode cX3_choose 16 = .ok (.istore_n 2, 1) := by decide +kernel
theorem dX3_choose_17 : decode cX3_choose 17 = .ok (.iconst 0, 1) := by decide +kernel
theorem dX3_choose_18 : decode cX3_choose 18 = .ok (.istore_n 3, 1) := by decide +kernel
theorem dX3_choose_19 : decode cX3_choose 19 = .ok (.iload_n 3, 1) := by decide +kernel
theorem dX3_choose_20 : decode cX3_choose 20 = .ok (.aload_n 0, 1) := by decide +kernel
theorem dX3_choose_21 : decode cX3_choose 21 = .ok (.getfield 18, 3) := by decide +kernel
theorem dX3_choose_24 : decode cX3_choose 24 = .ok (.getfield 22, 3) := by decide +kernel
theorem dX3_choose_27 : decode cX3_choose 27 = .ok (.getfield 42, 3) := by decide +kernel
theorem dX3_choose_30 : decode cX3_choose 30 = .ok (.if_icmp .ge 61, 3) := by decide +kernel
theorem dX3_choose_33 : decode cX3_choose 33 = .ok (.iload_n 3, 1) := by decide +kernel
theorem dX3_choose_34 : decode cX3_choose 34 = .ok (.bipush 6, 2) := by decide +kernel
theorem dX3_choose_36 : decode cX3_choose 36 = .ok (.if_icmp .ge 55, 3) := by decide +kernel
theorem dX3_choose_39 : decode cX3_choose 39 = .ok (.aload_n 0, 1) := by decide +kernel
theorem dX3_choose_40 : decode cX3_choose 40 = .ok (.iload_n 3, 1) := by decide +kernel
theorem dX3_choose_41 : decode cX3_choose 41 = .ok (.iload_n 2, 1) := by decide +kernel
theorem dX3_choose_42 : decode cX3_choose 42 = .ok (.iload_n 1, 1) := by decide +kernel
theorem dX3_choose_43 : decode cX3_choose 43 = .ok (.invokevirtual 45, 3) := by decide +kernel
theorem dX3_choose_46 : decode cX3_choose 46 = .ok (.istore 4, 2) := by decide +kernel
theorem dX3_choose_48 : decode cX3_choose 48 = .ok (.aload_n 0, 1) := by decide +kernel
theorem dX3_choose_49 : decode cX3_choose 49 = .ok (.getfield 15, 3) := by decide +kernel
theorem dX3_choose_52 : decode cX3_choose 52 = .ok (.iload_n 3, 1) := by decide +kernel
theorem dX3_choose_53 : decode cX3_choose 53 = .ok (.iload 4, 2) := by decide +kernel
theorem dX3_choose_55 : decode cX3_choose 55 = .ok (.iastore, 1) := by decide +kernel
theorem dX3_choose_56 : decode cX3_choose 56 = .ok (.iload 4, 2) := by decide +kernel
theorem dX3_choose_58 : decode cX3_choose 58 = .ok (.bipush 16, 2) := by decide +kernel
theorem dX3_choose_60 : decode cX3_choose 60 = .ok (.if_icmp .eq 25, 3) := by decide +kernel
theorem dX3_choose_85 : decode cX3_choose 85 = .ok (.iinc 3 1, 3) := by decide +kernel
theorem dX3_choose_88 : decode cX3_choose 88 = .ok (.goto (-69), 3) := by decide +kernel
theorem dX3_choose_63 : decode cX3_choose 63 = .ok (.iload_n 2, 1) := by decide +kernel
theorem dX3_choose_64 : decode cX3_choose 64 = .ok (.iconst 1, 1) := by decide +kernel
theorem dX3_choose_65 : decode cX3_choose 65 = .ok (.iload 4, 2) := by decide +kernel
theorem dX3_choose_67 : decode cX3_choose 67 = .ok (.ishl, 1) := by decide +kernel
theorem dX3_choose_68 : decode cX3_choose 68 = .ok (.ior, 1) := by decide +kernel
theorem dX3_choose_69 : decode cX3_choose 69 = .ok (.istore_n 2, 1) := by decide +kernel
theorem dX3_choose_70 : decode cX3_choose 70 = .ok (.iload_n 1, 1) := by decide +kernel
theorem dX3_choose_71 : decode cX3_choose 71 = .ok (.aload_n 0, 1) := by decide +kernel
theorem dX3_choose_72 : decode cX3_choose 72 = .ok (.getfield 18, 3) := by decide +kernel
theorem dX3_choose_75 : decode cX3_choose 75 = .ok (.getfield 22, 3) := by decide +kernel
theorem dX3_choose_78 : decode cX3_choose 78 = .ok (.iload_n 3, 1) := by decide +kernel
theorem dX3_choose_79 : decode cX3_choose 79 = .ok (.iconst 3, 1) := by decide +kernel
theorem dX3_choose_80 : decode cX3_choose 80 = .ok (.invokevirtual 49, 3) := by decide +kernel
theorem dX3_choose_83 : decode cX3_choose 83 = .ok (.isub, 1) := by decide +kernel
theorem dX3_choose_84 : decode cX3_choose 84 = .ok (.istore_n 1, 1) := by decide +kernel
theorem dX3_choose_91 : decode cX3_choose 91 = .ok (.return_, 1) := by decide +kernel

theorem kX0_setLoadOf_1 {a : Array Value} {s : State} (hts : ∀ w ∈ wsX0_setLoadOf, w.before a s = true) : (.fieldLink RX0 18 "SnowMules$World" "jars" "LSnowMules$Table;" : Cond).before a s = true := hts _ (List.mem_of_getElem? (i := 1) (by decide +kernel))
theorem kX0_setLoadOf_2 {a : Array Value} {s : State} (hts : ∀ w ∈ wsX0_setLoadOf, w.before a s = true) : (.fieldLink RX0 12 "SnowMules$Hours" "scene" "LSnowMules$Scene;" : Cond).before a s = true := hts _ (List.mem_of_getElem? (i := 2) (by decide +kernel))
theorem kX0_meltOf_1 {a : Array Value} {s : State} (hts : ∀ w ∈ wsX0_meltOf, w.before a s = true) : (.fieldLink RX0 18 "SnowMules$World" "jars" "LSnowMules$Table;" : Cond).before a s = true := hts _ (List.mem_of_getElem? (i := 1) (by decide +kernel))
theorem kX0_meltOf_2 {a : Array Value} {s : State} (hts : ∀ w ∈ wsX0_meltOf, w.before a s = true) : (.fieldLink RX0 12 "SnowMules$Hours" "scene" "LSnowMules$Scene;" : Cond).before a s = true := hts _ (List.mem_of_getElem? (i := 2) (by decide +kernel))
theorem kX0_meltOf_3 {a : Array Value} {s : State} (hts : ∀ w ∈ wsX0_meltOf, w.before a s = true) : (.fieldLink RX0 41 "SnowMules$World" "now" "I" : Cond).before a s = true := hts _ (List.mem_of_getElem? (i := 3) (by decide +kernel))
theorem kX0_meltOf_4 {a : Array Value} {s : State} (hts : ∀ w ∈ wsX0_meltOf, w.before a s = true) : (.fieldLink RX0 80 "SnowMules$Scene" "words" "[I" : Cond).before a s = true := hts _ (List.mem_of_getElem? (i := 4) (by decide +kernel))
theorem kX0_meltOf_93 {a : Array Value} {s : State} (hts : ∀ w ∈ wsX0_meltOf, w.before a s = true) : (.initialized RX10 : Cond).before a s = true := hts _ (List.mem_of_getElem? (i := 93) (by decide +kernel))
theorem kX0_meltOf_92 {a : Array Value} {s : State} (hts : ∀ w ∈ wsX0_meltOf, w.before a s = true) : (.static yX10_held : Cond).before a s = true := hts _ (List.mem_of_getElem? (i := 92) (by decide +kernel))
theorem kX0_restOf_1 {a : Array Value} {s : State} (hts : ∀ w ∈ wsX0_restOf, w.before a s = true) : (.fieldLink RX0 12 "SnowMules$Hours" "scene" "LSnowMules$Scene;" : Cond).before a s = true := hts _ (List.mem_of_getElem? (i := 1) (by decide +kernel))
theorem kX0_restOf_2 {a : Array Value} {s : State} (hts : ∀ w ∈ wsX0_restOf, w.before a s = true) : (.fieldLink RX0 80 "SnowMules$Scene" "words" "[I" : Cond).before a s = true := hts _ (List.mem_of_getElem? (i := 2) (by decide +kernel))
theorem kX0_restOf_62 {a : Array Value} {s : State} (hts : ∀ w ∈ wsX0_restOf, w.before a s = true) : (.initialized RX10 : Cond).before a s = true := hts _ (List.mem_of_getElem? (i := 62) (by decide +kernel))
theorem kX0_restOf_61 {a : Array Value} {s : State} (hts : ∀ w ∈ wsX0_restOf, w.before a s = true) : (.static yX10_held : Cond).before a s = true := hts _ (List.mem_of_getElem? (i := 61) (by decide +kernel))
theorem kX0_nextBehind_1 {a : Array Value} {s : State} (hts : ∀ w ∈ wsX0_nextBehind, w.before a s = true) : (.fieldLink RX0 18 "SnowMules$World" "jars" "LSnowMules$Table;" : Cond).before a s = true := hts _ (List.mem_of_getElem? (i := 1) (by decide +kernel))
theorem kX0_nextBehind_2 {a : Array Value} {s : State} (hts : ∀ w ∈ wsX0_nextBehind, w.before a s = true) : (.fieldLink RX0 24 "SnowMules$Table" "size" "I" : Cond).before a s = true := hts _ (List.mem_of_getElem? (i := 2) (by decide +kernel))
theorem kX0_burstFrom_1 {a : Array Value} {s : State} (hts : ∀ w ∈ wsX0_burstFrom, w.before a s = true) : (.fieldLink RX0 18 "SnowMules$World" "jars" "LSnowMules$Table;" : Cond).before a s = true := hts _ (List.mem_of_getElem? (i := 1) (by decide +kernel))
theorem kX0_arrive_1 {a : Array Value} {s : State} (hts : ∀ w ∈ wsX0_arrive, w.before a s = true) : (.fieldLink RX0 18 "SnowMules$World" "jars" "LSnowMules$Table;" : Cond).before a s = true := hts _ (List.mem_of_getElem? (i := 1) (by decide +kernel))
theorem kX0_arrive_2 {a : Array Value} {s : State} (hts : ∀ w ∈ wsX0_arrive, w.before a s = true) : (.fieldLink RX0 12 "SnowMules$Hours" "scene" "LSnowMules$Scene;" : Cond).before a s = true := hts _ (List.mem_of_getElem? (i := 2) (by decide +kernel))
theorem kX0_arrive_3 {a : Array Value} {s : State} (hts : ∀ w ∈ wsX0_arrive, w.before a s = true) : (.fieldLink RX0 41 "SnowMules$World" "now" "I" : Cond).before a s = true := hts _ (List.mem_of_getElem? (i := 3) (by decide +kernel))
theorem kX0_arrive_4 {a : Array Value} {s : State} (hts : ∀ w ∈ wsX0_arrive, w.before a s = true) : (.fieldLink RX0 80 "SnowMules$Scene" "words" "[I" : Cond).before a s = true := hts _ (List.mem_of_getElem? (i := 4) (by decide +kernel))
theorem kX0_arrive_81 {a : Array Value} {s : State} (hts : ∀ w ∈ wsX0_arrive, w.before a s = true) : (.initialized RX10 : Cond).before a s = true := hts _ (List.mem_of_getElem? (i := 81) (by decide +kernel))
theorem kX0_arrive_80 {a : Array Value} {s : State} (hts : ∀ w ∈ wsX0_arrive, w.before a s = true) : (.static yX10_held : Cond).before a s = true := hts _ (List.mem_of_getElem? (i := 80) (by decide +kernel))
theorem kX0_arrive_5 {a : Array Value} {s : State} (hts : ∀ w ∈ wsX0_arrive, w.before a s = true) : (.fieldLink RX0 56 "SnowMules$World" "passes" "LSnowMules$Table;" : Cond).before a s = true := hts _ (List.mem_of_getElem? (i := 5) (by decide +kernel))
theorem kX0_arrive_6 {a : Array Value} {s : State} (hts : ∀ w ∈ wsX0_arrive, w.before a s = true) : (.fieldLink RX0 111 "SnowMules$Law" "chain" "I" : Cond).before a s = true := hts _ (List.mem_of_getElem? (i := 6) (by decide +kernel))
theorem kX0_stepJar_1 {a : Array Value} {s : State} (hts : ∀ w ∈ wsX0_stepJar, w.before a s = true) : (.fieldLink RX0 18 "SnowMules$World" "jars" "LSnowMules$Table;" : Cond).before a s = true := hts _ (List.mem_of_getElem? (i := 1) (by decide +kernel))
theorem kX0_stepJar_2 {a : Array Value} {s : State} (hts : ∀ w ∈ wsX0_stepJar, w.before a s = true) : (.fieldLink RX0 56 "SnowMules$World" "passes" "LSnowMules$Table;" : Cond).before a s = true := hts _ (List.mem_of_getElem? (i := 2) (by decide +kernel))
theorem kX0_step_1 {a : Array Value} {s : State} (hts : ∀ w ∈ wsX0_step, w.before a s = true) : (.fieldLink RX0 18 "SnowMules$World" "jars" "LSnowMules$Table;" : Cond).before a s = true := hts _ (List.mem_of_getElem? (i := 1) (by decide +kernel))
theorem kX0_step_2 {a : Array Value} {s : State} (hts : ∀ w ∈ wsX0_step, w.before a s = true) : (.fieldLink RX0 24 "SnowMules$Table" "size" "I" : Cond).before a s = true := hts _ (List.mem_of_getElem? (i := 2) (by decide +kernel))
theorem kX0_step_3 {a : Array Value} {s : State} (hts : ∀ w ∈ wsX0_step, w.before a s = true) : (.fieldLink RX0 38 "SnowMules$World" "nodes" "LSnowMules$Table;" : Cond).before a s = true := hts _ (List.mem_of_getElem? (i := 3) (by decide +kernel))
theorem kX0_step_4 {a : Array Value} {s : State} (hts : ∀ w ∈ wsX0_step, w.before a s = true) : (.fieldLink RX0 41 "SnowMules$World" "now" "I" : Cond).before a s = true := hts _ (List.mem_of_getElem? (i := 4) (by decide +kernel))
theorem kX0_owedAt_1 {a : Array Value} {s : State} (hts : ∀ w ∈ wsX0_owedAt, w.before a s = true) : (.fieldLink RX0 130 "SnowMules$World" "feasts" "LSnowMules$Table;" : Cond).before a s = true := hts _ (List.mem_of_getElem? (i := 1) (by decide +kernel))
theorem kX0_owedAt_2 {a : Array Value} {s : State} (hts : ∀ w ∈ wsX0_owedAt, w.before a s = true) : (.fieldLink RX0 24 "SnowMules$Table" "size" "I" : Cond).before a s = true := hts _ (List.mem_of_getElem? (i := 2) (by decide +kernel))
theorem kX0_owedAt_3 {a : Array Value} {s : State} (hts : ∀ w ∈ wsX0_owedAt, w.before a s = true) : (.fieldLink RX0 41 "SnowMules$World" "now" "I" : Cond).before a s = true := hts _ (List.mem_of_getElem? (i := 3) (by decide +kernel))
theorem kX0_eatenOn_1 {a : Array Value} {s : State} (hts : ∀ w ∈ wsX0_eatenOn, w.before a s = true) : (.fieldLink RX0 130 "SnowMules$World" "feasts" "LSnowMules$Table;" : Cond).before a s = true := hts _ (List.mem_of_getElem? (i := 1) (by decide +kernel))
theorem kX0_eatenOn_2 {a : Array Value} {s : State} (hts : ∀ w ∈ wsX0_eatenOn, w.before a s = true) : (.fieldLink RX0 24 "SnowMules$Table" "size" "I" : Cond).before a s = true := hts _ (List.mem_of_getElem? (i := 2) (by decide +kernel))
theorem kX0_lasts_1 {a : Array Value} {s : State} (hts : ∀ w ∈ wsX0_lasts, w.before a s = true) : (.fieldLink RX0 41 "SnowMules$World" "now" "I" : Cond).before a s = true := hts _ (List.mem_of_getElem? (i := 1) (by decide +kernel))
theorem iX0_setLoadOf_X9 : ∀ w ∈ wsX90, w ∈ wsX0_setLoadOf := by decide +kernel
theorem iX0_setLoadOf_X0 : ∀ w ∈ wsX00, w ∈ wsX0_setLoadOf := by decide +kernel
theorem iX0_meltOf_X9 : ∀ w ∈ wsX90, w ∈ wsX0_meltOf := by decide +kernel
theorem iX0_meltOf_X0 : ∀ w ∈ wsX00, w ∈ wsX0_meltOf := by decide +kernel
theorem iX0_meltOf_X4 : ∀ w ∈ wsX40, w ∈ wsX0_meltOf := by decide +kernel
theorem iX0_restOf_X0 : ∀ w ∈ wsX00, w ∈ wsX0_restOf := by decide +kernel
theorem iX0_restOf_X4 : ∀ w ∈ wsX40, w ∈ wsX0_restOf := by decide +kernel
theorem iX0_nextBehind_X9 : ∀ w ∈ wsX90, w ∈ wsX0_nextBehind := by decide +kernel
theorem iX0_nextBehind_X6 : ∀ w ∈ wsX60, w ∈ wsX0_nextBehind := by decide +kernel
theorem iX0_burstFrom_X9 : ∀ w ∈ wsX90, w ∈ wsX0_burstFrom := by decide +kernel
theorem iX0_arrive_X9 : ∀ w ∈ wsX90, w ∈ wsX0_arrive := by decide +kernel
theorem iX0_arrive_X0 : ∀ w ∈ wsX00, w ∈ wsX0_arrive := by decide +kernel
theorem iX0_arrive_X4 : ∀ w ∈ wsX40, w ∈ wsX0_arrive := by decide +kernel
theorem iX0_arrive_X1 : ∀ w ∈ wsX10, w ∈ wsX0_arrive := by decide +kernel
theorem iX0_stepJar_X9 : ∀ w ∈ wsX90, w ∈ wsX0_stepJar := by decide +kernel
theorem iX0_step_X9 : ∀ w ∈ wsX90, w ∈ wsX0_step := by decide +kernel
theorem iX0_step_X6 : ∀ w ∈ wsX60, w ∈ wsX0_step := by decide +kernel
theorem iX0_owedAt_X9 : ∀ w ∈ wsX90, w ∈ wsX0_owedAt := by decide +kernel
theorem iX0_owedAt_X6 : ∀ w ∈ wsX60, w ∈ wsX0_owedAt := by decide +kernel
theorem iX0_eatenOn_X9 : ∀ w ∈ wsX90, w ∈ wsX0_eatenOn := by decide +kernel
theorem iX0_eatenOn_X6 : ∀ w ∈ wsX60, w ∈ wsX0_eatenOn := by decide +kernel
theorem iX0_lasts_X9 : ∀ w ∈ wsX90, w ∈ wsX0_lasts := by decide +kernel
theorem dX10_held_0 : decode cX10_held 0 = .ok (.lload_n 0, 1) := by decide +kernel
theorem dX10_held_1 : decode cX10_held 1 = .ok (.lconst 0, 1) := by decide +kernel
theorem dX10_held_2 : decode cX10_held 2 = .ok (.lcmp, 1) := by decide +kernel
theorem dX10_held_3 : decode cX10_held 3 = .ok (.ifCond .ge 5, 3) := by decide +kernel
theorem dX10_held_8 : decode cX10_held 8 = .ok (.lload_n 0, 1) := by decide +kernel
theorem dX10_held_9 : decode cX10_held 9 = .ok (.iload_n 2, 1) := by decide +kernel
theorem dX10_held_10 : decode cX10_held 10 = .ok (.i2l, 1) := by decide +kernel
theorem dX10_held_11 : decode cX10_held 11 = .ok (.lcmp, 1) := by decide +kernel
theorem dX10_held_12 : decode cX10_held 12 = .ok (.ifCond .le 7, 3) := by decide +kernel
theorem dX10_held_19 : decode cX10_held 19 = .ok (.lload_n 0, 1) := by decide +kernel
theorem dX10_held_20 : decode cX10_held 20 = .ok (.l2i, 1) := by decide +kernel
theorem dX10_held_21 : decode cX10_held 21 = .ok (.ireturn, 1) := by decide +kernel
theorem dX10_held_15 : decode cX10_held 15 = .ok (.iload_n 2, 1) := by decide +kernel
theorem dX10_held_16 : decode cX10_held 16 = .ok (.goto 5, 3) := by decide +kernel
theorem dX10_held_6 : decode cX10_held 6 = .ok (.iconst 0, 1) := by decide +kernel
theorem dX10_held_7 : decode cX10_held 7 = .ok (.ireturn, 1) := by decide +kernel
theorem dX0_setLoadOf_0 : decode cX0_setLoadOf 0 = .ok (.aload_n 1, 1) := by decide +kernel
theorem dX0_setLoadOf_1 : decode cX0_setLoadOf 1 = .ok (.getfield 18, 3) := by decide +kernel
theorem dX0_setLoadOf_4 : decode cX0_setLoadOf 4 = .ok (.astore_n 3, 1) := by decide +kernel
theorem dX0_setLoadOf_5 : decode cX0_setLoadOf 5 = .ok (.aload_n 0, 1) := by decide +kernel
theorem dX0_setLoadOf_6 : decode cX0_setLoadOf 6 = .ok (.getfield 12, 3) := by decide +kernel
theorem dX0_setLoadOf_9 : decode cX0_setLoadOf 9 = .ok (.aload_n 3, 1) := by decide +kernel
theorem dX0_setLoadOf_10 : decode cX0_setLoadOf 10 = .ok (.iload_n 2, 1) := by decide +kernel
theorem dX0_setLoadOf_11 : decode cX0_setLoadOf 11 = .ok (.iconst 0, 1) := by decide +kernel
theorem dX0_setLoadOf_12 : decode cX0_setLoadOf 12 = .ok (.invokevirtual 30, 3) := by decide +kernel
theorem dX0_setLoadOf_15 : decode cX0_setLoadOf 15 = .ok (.aload_n 3, 1) := by decide +kernel
theorem dX0_setLoadOf_16 : decode cX0_setLoadOf 16 = .ok (.iload_n 2, 1) := by decide +kernel
theorem dX0_setLoadOf_17 : decode cX0_setLoadOf 17 = .ok (.iconst 5, 1) := by decide +kernel
theorem dX0_setLoadOf_18 : decode cX0_setLoadOf 18 = .ok (.invokevirtual 30, 3) := by decide +kernel
theorem dX0_setLoadOf_21 : decode cX0_setLoadOf 21 = .ok (.aload_n 3, 1) := by decide +kernel
theorem dX0_setLoadOf_22 : decode cX0_setLoadOf 22 = .ok (.iload_n 2, 1) := by decide +kernel
theorem dX0_setLoadOf_23 : decode cX0_setLoadOf 23 = .ok (.bipush 6, 2) := by decide +kernel
theorem dX0_setLoadOf_25 : decode cX0_setLoadOf 25 = .ok (.invokevirtual 30, 3) := by decide +kernel
theorem dX0_setLoadOf_28 : decode cX0_setLoadOf 28 = .ok (.invokevirtual 94, 3) := by decide +kernel
theorem dX0_setLoadOf_31 : decode cX0_setLoadOf 31 = .ok (.return_, 1) := by decide +kernel
theorem dX0_meltOf_0 : decode cX0_meltOf 0 = .ok (.aload_n 1, 1) := by decide +kernel
theorem dX0_meltOf_1 : decode cX0_meltOf 1 = .ok (.getfield 18, 3) := by decide +kernel
theorem dX0_meltOf_4 : decode cX0_meltOf 4 = .ok (.iload_n 3, 1) := by decide +kernel
theorem dX0_meltOf_5 : decode cX0_meltOf 5 = .ok (.iconst 0, 1) := by decide +kernel
theorem dX0_meltOf_6 : decode cX0_meltOf 6 = .ok (.invokevirtual 30, 3) := by decide +kernel
theorem dX0_meltOf_9 : decode cX0_meltOf 9 = .ok (.istore 4, 2) := by decide +kernel
theorem dX0_meltOf_11 : decode cX0_meltOf 11 = .ok (.iload 4, 2) := by decide +kernel
theorem dX0_meltOf_13 : decode cX0_meltOf 13 = .ok (.ifCond .ne 5, 3) := by decide +kernel
theorem dX0_meltOf_18 : decode cX0_meltOf 18 = .ok (.aload_n 1, 1) := by decide +kernel
theorem dX0_meltOf_19 : decode cX0_meltOf 19 = .ok (.getfield 18, 3) := by decide +kernel
theorem dX0_meltOf_22 : decode cX0_meltOf 22 = .ok (.iload_n 3, 1) := by decide +kernel
theorem dX0_meltOf_23 : decode cX0_meltOf 23 = .ok (.iconst 1, 1) := by decide +kernel
theorem dX0_meltOf_24 : decode cX0_meltOf 24 = .ok (.invokevirtual 30, 3) := by decide +kernel
theorem dX0_meltOf_27 : decode cX0_meltOf 27 = .ok (.istore 5, 2) := by decide +kernel
theorem dX0_meltOf_29 : decode cX0_meltOf 29 = .ok (.iload 5, 2) := by decide +kernel
theorem dX0_meltOf_31 : decode cX0_meltOf 31 = .ok (.bipush 12, 2) := by decide +kernel
theorem dX0_meltOf_33 : decode cX0_meltOf 33 = .ok (.if_icmp .ne 48, 3) := by decide +kernel
theorem dX0_meltOf_81 : decode cX0_meltOf 81 = .ok (.aload_n 0, 1) := by decide +kernel
theorem dX0_meltOf_82 : decode cX0_meltOf 82 = .ok (.getfield 12, 3) := by decide +kernel
theorem dX0_meltOf_85 : decode cX0_meltOf 85 = .ok (.aload_n 1, 1) := by decide +kernel
theorem dX0_meltOf_86 : decode cX0_meltOf 86 = .ok (.iload 5, 2) := by decide +kernel
theorem dX0_meltOf_88 : decode cX0_meltOf 88 = .ok (.invokevirtual 70, 3) := by decide +kernel
theorem dX0_meltOf_91 : decode cX0_meltOf 91 = .ok (.aload_n 0, 1) := by decide +kernel
theorem dX0_meltOf_92 : decode cX0_meltOf 92 = .ok (.getfield 12, 3) := by decide +kernel
theorem dX0_meltOf_95 : decode cX0_meltOf 95 = .ok (.aload_n 1, 1) := by decide +kernel
theorem dX0_meltOf_96 : decode cX0_meltOf 96 = .ok (.aload_n 1, 1) := by decide +kernel
theorem dX0_meltOf_97 : decode cX0_meltOf 97 = .ok (.getfield 41, 3) := by decide +kernel
theorem dX0_meltOf_100 : decode cX0_meltOf 100 = .ok (.invokevirtual 74, 3) := by decide +kernel
theorem dX0_meltOf_103 : decode cX0_meltOf 103 = .ok (.aload_n 0, 1) := by decide +kernel
theorem dX0_meltOf_104 : decode cX0_meltOf 104 = .ok (.aload_n 1, 1) := by decide +kernel
theorem dX0_meltOf_105 : decode cX0_meltOf 105 = .ok (.iload_n 3, 1) := by decide +kernel
theorem dX0_meltOf_106 : decode cX0_meltOf 106 = .ok (.invokevirtual 77, 3) := by decide +kernel
theorem dX0_meltOf_109 : decode cX0_meltOf 109 = .ok (.aload_n 2, 1) := by decide +kernel
theorem dX0_meltOf_110 : decode cX0_meltOf 110 = .ok (.iconst 0, 1) := by decide +kernel
theorem dX0_meltOf_111 : decode cX0_meltOf 111 = .ok (.aload_n 0, 1) := by decide +kernel
theorem dX0_meltOf_112 : decode cX0_meltOf 112 = .ok (.getfield 12, 3) := by decide +kernel
theorem dX0_meltOf_115 : decode cX0_meltOf 115 = .ok (.getfield 80, 3) := by decide +kernel
theorem dX0_meltOf_118 : decode cX0_meltOf 118 = .ok (.invokevirtual 84, 3) := by decide +kernel
theorem dX0_meltOf_121 : decode cX0_meltOf 121 = .ok (.iload 4, 2) := by decide +kernel
theorem dX0_meltOf_123 : decode cX0_meltOf 123 = .ok (.invokestatic 90, 3) := by decide +kernel
theorem dX0_meltOf_36 : decode cX0_meltOf 36 = .ok (.aload_n 0, 1) := by decide +kernel
theorem dX0_meltOf_37 : decode cX0_meltOf 37 = .ok (.getfield 12, 3) := by decide +kernel
theorem dX0_meltOf_40 : decode cX0_meltOf 40 = .ok (.aload_n 1, 1) := by decide +kernel
theorem dX0_meltOf_41 : decode cX0_meltOf 41 = .ok (.aload_n 1, 1) := by decide +kernel
theorem dX0_meltOf_42 : decode cX0_meltOf 42 = .ok (.getfield 18, 3) := by decide +kernel
theorem dX0_meltOf_45 : decode cX0_meltOf 45 = .ok (.iload_n 3, 1) := by decide +kernel
theorem dX0_meltOf_46 : decode cX0_meltOf 46 = .ok (.iconst 2, 1) := by decide +kernel
theorem dX0_meltOf_47 : decode cX0_meltOf 47 = .ok (.invokevirtual 30, 3) := by decide +kernel
theorem dX0_meltOf_50 : decode cX0_meltOf 50 = .ok (.aload_n 1, 1) := by decide +kernel
theorem dX0_meltOf_51 : decode cX0_meltOf 51 = .ok (.getfield 18, 3) := by decide +kernel
theorem dX0_meltOf_54 : decode cX0_meltOf 54 = .ok (.iload_n 3, 1) := by decide +kernel
theorem dX0_meltOf_55 : decode cX0_meltOf 55 = .ok (.iconst 4, 1) := by decide +kernel
theorem dX0_meltOf_56 : decode cX0_meltOf 56 = .ok (.invokevirtual 30, 3) := by decide +kernel
theorem dX0_meltOf_59 : decode cX0_meltOf 59 = .ok (.invokevirtual 62, 3) := by decide +kernel
theorem dX0_meltOf_62 : decode cX0_meltOf 62 = .ok (.aload_n 0, 1) := by decide +kernel
theorem dX0_meltOf_63 : decode cX0_meltOf 63 = .ok (.getfield 12, 3) := by decide +kernel
theorem dX0_meltOf_66 : decode cX0_meltOf 66 = .ok (.aload_n 1, 1) := by decide +kernel
theorem dX0_meltOf_67 : decode cX0_meltOf 67 = .ok (.getfield 18, 3) := by decide +kernel
theorem dX0_meltOf_70 : decode cX0_meltOf 70 = .ok (.iload_n 3, 1) := by decide +kernel
theorem dX0_meltOf_71 : decode cX0_meltOf 71 = .ok (.iconst 3, 1) := by decide +kernel
theorem dX0_meltOf_72 : decode cX0_meltOf 72 = .ok (.invokevirtual 30, 3) := by decide +kernel
theorem dX0_meltOf_75 : decode cX0_meltOf 75 = .ok (.invokevirtual 66, 3) := by decide +kernel
theorem dX0_meltOf_78 : decode cX0_meltOf 78 = .ok (.goto 13, 3) := by decide +kernel
theorem dX0_meltOf_16 : decode cX0_meltOf 16 = .ok (.iconst 0, 1) := by decide +kernel
theorem dX0_meltOf_17 : decode cX0_meltOf 17 = .ok (.ireturn, 1) := by decide +kernel
theorem dX0_meltOf_126 : decode cX0_meltOf 126 = .ok (.ireturn, 1) := by decide +kernel
theorem dX0_restOf_0 : decode cX0_restOf 0 = .ok (.iload 5, 2) := by decide +kernel
theorem dX0_restOf_2 : decode cX0_restOf 2 = .ok (.ifCond .ne 5, 3) := by decide +kernel
theorem dX0_restOf_7 : decode cX0_restOf 7 = .ok (.aload_n 0, 1) := by decide +kernel
theorem dX0_restOf_8 : decode cX0_restOf 8 = .ok (.getfield 12, 3) := by decide +kernel
theorem dX0_restOf_11 : decode cX0_restOf 11 = .ok (.aload_n 1, 1) := by decide +kernel
theorem dX0_restOf_12 : decode cX0_restOf 12 = .ok (.iload 4, 2) := by decide +kernel
theorem dX0_restOf_14 : decode cX0_restOf 14 = .ok (.invokevirtual 74, 3) := by decide +kernel
theorem dX0_restOf_17 : decode cX0_restOf 17 = .ok (.aload_n 0, 1) := by decide +kernel
theorem dX0_restOf_18 : decode cX0_restOf 18 = .ok (.getfield 12, 3) := by decide +kernel
theorem dX0_restOf_21 : decode cX0_restOf 21 = .ok (.aload_n 1, 1) := by decide +kernel
theorem dX0_restOf_22 : decode cX0_restOf 22 = .ok (.iload_n 3, 1) := by decide +kernel
theorem dX0_restOf_23 : decode cX0_restOf 23 = .ok (.invokevirtual 70, 3) := by decide +kernel
theorem dX0_restOf_26 : decode cX0_restOf 26 = .ok (.aload_n 0, 1) := by decide +kernel
theorem dX0_restOf_27 : decode cX0_restOf 27 = .ok (.getfield 12, 3) := by decide +kernel
theorem dX0_restOf_30 : decode cX0_restOf 30 = .ok (.iload 5, 2) := by decide +kernel
theorem dX0_restOf_32 : decode cX0_restOf 32 = .ok (.iconst 0, 1) := by decide +kernel
theorem dX0_restOf_33 : decode cX0_restOf 33 = .ok (.iconst 0, 1) := by decide +kernel
theorem dX0_restOf_34 : decode cX0_restOf 34 = .ok (.invokevirtual 94, 3) := by decide +kernel
theorem dX0_restOf_37 : decode cX0_restOf 37 = .ok (.aload_n 2, 1) := by decide +kernel
theorem dX0_restOf_38 : decode cX0_restOf 38 = .ok (.iconst 1, 1) := by decide +kernel
theorem dX0_restOf_39 : decode cX0_restOf 39 = .ok (.aload_n 0, 1) := by decide +kernel
theorem dX0_restOf_40 : decode cX0_restOf 40 = .ok (.getfield 12, 3) := by decide +kernel
theorem dX0_restOf_43 : decode cX0_restOf 43 = .ok (.getfield 80, 3) := by decide +kernel
theorem dX0_restOf_46 : decode cX0_restOf 46 = .ok (.invokevirtual 84, 3) := by decide +kernel
theorem dX0_restOf_49 : decode cX0_restOf 49 = .ok (.iload 5, 2) := by decide +kernel
theorem dX0_restOf_51 : decode cX0_restOf 51 = .ok (.invokestatic 90, 3) := by decide +kernel
theorem dX0_restOf_5 : decode cX0_restOf 5 = .ok (.iconst 0, 1) := by decide +kernel
theorem dX0_restOf_6 : decode cX0_restOf 6 = .ok (.ireturn, 1) := by decide +kernel
theorem dX0_restOf_54 : decode cX0_restOf 54 = .ok (.ireturn, 1) := by decide +kernel
theorem dX0_nextBehind_0 : decode cX0_nextBehind 0 = .ok (.aload_n 1, 1) := by decide +kernel
theorem dX0_nextBehind_1 : decode cX0_nextBehind 1 = .ok (.getfield 18, 3) := by decide +kernel
theorem dX0_nextBehind_4 : decode cX0_nextBehind 4 = .ok (.astore 5, 2) := by decide +kernel
theorem dX0_nextBehind_6 : decode cX0_nextBehind 6 = .ok (.iconst (-1), 1) := by decide +kernel
theorem dX0_nextBehind_7 : decode cX0_nextBehind 7 = .ok (.istore 6, 2) := by decide +kernel
theorem dX0_nextBehind_9 : decode cX0_nextBehind 9 = .ok (.iconst 0, 1) := by decide +kernel
theorem dX0_nextBehind_10 : decode cX0_nextBehind 10 = .ok (.istore 7, 2) := by decide +kernel
theorem dX0_nextBehind_12 : decode cX0_nextBehind 12 = .ok (.iload 7, 2) := by decide +kernel
theorem dX0_nextBehind_14 : decode cX0_nextBehind 14 = .ok (.aload 5, 2) := by decide +kernel
theorem dX0_nextBehind_16 : decode cX0_nextBehind 16 = .ok (.getfield 24, 3) := by decide +kernel
theorem dX0_nextBehind_19 : decode cX0_nextBehind 19 = .ok (.if_icmp .ge 153, 3) := by decide +kernel
theorem dX0_nextBehind_22 : decode cX0_nextBehind 22 = .ok (.aload 5, 2) := by decide +kernel
theorem dX0_nextBehind_24 : decode cX0_nextBehind 24 = .ok (.iload 7, 2) := by decide +kernel
theorem dX0_nextBehind_26 : decode cX0_nextBehind 26 = .ok (.iconst 1, 1) := by decide +kernel
theorem dX0_nextBehind_27 : decode cX0_nextBehind 27 = .ok (.invokevirtual 30, 3) := by decide +kernel
theorem dX0_nextBehind_30 : decode cX0_nextBehind 30 = .ok (.iload_n 3, 1) := by decide +kernel
theorem dX0_nextBehind_31 : decode cX0_nextBehind 31 = .ok (.if_icmp .eq 16, 3) := by decide +kernel
theorem dX0_nextBehind_47 : decode cX0_nextBehind 47 = .ok (.iconst 1, 1) := by decide +kernel
theorem dX0_nextBehind_48 : decode cX0_nextBehind 48 = .ok (.goto 4, 3) := by decide +kernel
theorem dX0_nextBehind_52 : decode cX0_nextBehind 52 = .ok (.istore 8, 2) := by decide +kernel
theorem dX0_nextBehind_54 : decode cX0_nextBehind 54 = .ok (.aload 5, 2) := by decide +kernel
theorem dX0_nextBehind_56 : decode cX0_nextBehind 56 = .ok (.iload 7, 2) := by decide +kernel
theorem dX0_nextBehind_58 : decode cX0_nextBehind 58 = .ok (.bipush 7, 2) := by decide +kernel
theorem dX0_nextBehind_60 : decode cX0_nextBehind 60 = .ok (.invokevirtual 30, 3) := by decide +kernel
theorem dX0_nextBehind_63 : decode cX0_nextBehind 63 = .ok (.aload 5, 2) := by decide +kernel
theorem dX0_nextBehind_65 : decode cX0_nextBehind 65 = .ok (.iload_n 2, 1) := by decide +kernel
theorem dX0_nextBehind_66 : decode cX0_nextBehind 66 = .ok (.bipush 7, 2) := by decide +kernel
theorem dX0_nextBehind_68 : decode cX0_nextBehind 68 = .ok (.invokevirtual 30, 3) := by decide +kernel
theorem dX0_nextBehind_71 : decode cX0_nextBehind 71 = .ok (.if_icmp .ne 7, 3) := by decide +kernel
theorem dX0_nextBehind_78 : decode cX0_nextBehind 78 = .ok (.iconst 0, 1) := by decide +kernel
theorem dX0_nextBehind_79 : decode cX0_nextBehind 79 = .ok (.istore 9, 2) := by decide +kernel
theorem dX0_nextBehind_81 : decode cX0_nextBehind 81 = .ok (.aload 5, 2) := by decide +kernel
theorem dX0_nextBehind_83 : decode cX0_nextBehind 83 = .ok (.iload 7, 2) := by decide +kernel
theorem dX0_nextBehind_85 : decode cX0_nextBehind 85 = .ok (.bipush 8, 2) := by decide +kernel
theorem dX0_nextBehind_87 : decode cX0_nextBehind 87 = .ok (.invokevirtual 30, 3) := by decide +kernel
theorem dX0_nextBehind_90 : decode cX0_nextBehind 90 = .ok (.aload 5, 2) := by decide +kernel
theorem dX0_nextBehind_92 : decode cX0_nextBehind 92 = .ok (.iload_n 2, 1) := by decide +kernel
theorem dX0_nextBehind_93 : decode cX0_nextBehind 93 = .ok (.bipush 8, 2) := by decide +kernel
theorem dX0_nextBehind_95 : decode cX0_nextBehind 95 = .ok (.invokevirtual 30, 3) := by decide +kernel
theorem dX0_nextBehind_98 : decode cX0_nextBehind 98 = .ok (.if_icmp .le 7, 3) := by decide +kernel
theorem dX0_nextBehind_105 : decode cX0_nextBehind 105 = .ok (.iconst 0, 1) := by decide +kernel
theorem dX0_nextBehind_106 : decode cX0_nextBehind 106 = .ok (.istore 10, 2) := by decide +kernel
theorem dX0_nextBehind_108 : decode cX0_nextBehind 108 = .ok (.iload 6, 2) := by decide +kernel
theorem dX0_nextBehind_110 : decode cX0_nextBehind 110 = .ok (.iconst (-1), 1) := by decide +kernel
theorem dX0_nextBehind_111 : decode cX0_nextBehind 111 = .ok (.if_icmp .eq 24, 3) := by decide +kernel
theorem dX0_nextBehind_135 : decode cX0_nextBehind 135 = .ok (.iconst 1, 1) := by decide +kernel
theorem dX0_nextBehind_136 : decode cX0_nextBehind 136 = .ok (.goto 4, 3) := by decide +kernel
theorem dX0_nextBehind_140 : decode cX0_nextBehind 140 = .ok (.istore 11, 2) := by decide +kernel
theorem dX0_nextBehind_142 : decode cX0_nextBehind 142 = .ok (.iload 8, 2) := by decide +kernel
theorem dX0_nextBehind_144 : decode cX0_nextBehind 144 = .ok (.ifCond .eq 22, 3) := by decide +kernel
theorem dX0_nextBehind_147 : decode cX0_nextBehind 147 = .ok (.iload 9, 2) := by decide +kernel
theorem dX0_nextBehind_149 : decode cX0_nextBehind 149 = .ok (.ifCond .eq 17, 3) := by decide +kernel
theorem dX0_nextBehind_166 : decode cX0_nextBehind 166 = .ok (.iinc 7 1, 3) := by decide +kernel
theorem dX0_nextBehind_169 : decode cX0_nextBehind 169 = .ok (.goto (-157), 3) := by decide +kernel
theorem dX0_nextBehind_101 : decode cX0_nextBehind 101 = .ok (.iconst 1, 1) := by decide +kernel
theorem dX0_nextBehind_102 : decode cX0_nextBehind 102 = .ok (.goto 4, 3) := by decide +kernel
theorem dX0_nextBehind_74 : decode cX0_nextBehind 74 = .ok (.iconst 1, 1) := by decide +kernel
theorem dX0_nextBehind_75 : decode cX0_nextBehind 75 = .ok (.goto 4, 3) := by decide +kernel
theorem dX0_nextBehind_152 : decode cX0_nextBehind 152 = .ok (.iload 10, 2) := by decide +kernel
theorem dX0_nextBehind_154 : decode cX0_nextBehind 154 = .ok (.ifCond .eq 12, 3) := by decide +kernel
theorem dX0_nextBehind_157 : decode cX0_nextBehind 157 = .ok (.iload 11, 2) := by decide +kernel
theorem dX0_nextBehind_159 : decode cX0_nextBehind 159 = .ok (.ifCond .eq 7, 3) := by decide +kernel
theorem dX0_nextBehind_162 : decode cX0_nextBehind 162 = .ok (.iload 7, 2) := by decide +kernel
theorem dX0_nextBehind_164 : decode cX0_nextBehind 164 = .ok (.istore 6, 2) := by decide +kernel
theorem dX0_nextBehind_34 : decode cX0_nextBehind 34 = .ok (.aload 5, 2) := by decide +kernel
theorem dX0_nextBehind_36 : decode cX0_nextBehind 36 = .ok (.iload 7, 2) := by decide +kernel
theorem dX0_nextBehind_38 : decode cX0_nextBehind 38 = .ok (.iconst 2, 1) := by decide +kernel
theorem dX0_nextBehind_39 : decode cX0_nextBehind 39 = .ok (.invokevirtual 30, 3) := by decide +kernel
theorem dX0_nextBehind_42 : decode cX0_nextBehind 42 = .ok (.iload 4, 2) := by decide +kernel
theorem dX0_nextBehind_44 : decode cX0_nextBehind 44 = .ok (.if_icmp .ne 7, 3) := by decide +kernel
theorem dX0_nextBehind_51 : decode cX0_nextBehind 51 = .ok (.iconst 0, 1) := by decide +kernel
theorem dX0_nextBehind_172 : decode cX0_nextBehind 172 = .ok (.iload 6, 2) := by decide +kernel
theorem dX0_nextBehind_174 : decode cX0_nextBehind 174 = .ok (.ireturn, 1) := by decide +kernel
theorem dX0_nextBehind_114 : decode cX0_nextBehind 114 = .ok (.aload 5, 2) := by decide +kernel
theorem dX0_nextBehind_116 : decode cX0_nextBehind 116 = .ok (.iload 7, 2) := by decide +kernel
theorem dX0_nextBehind_118 : decode cX0_nextBehind 118 = .ok (.bipush 8, 2) := by decide +kernel
theorem dX0_nextBehind_120 : decode cX0_nextBehind 120 = .ok (.invokevirtual 30, 3) := by decide +kernel
theorem dX0_nextBehind_123 : decode cX0_nextBehind 123 = .ok (.aload 5, 2) := by decide +kernel
theorem dX0_nextBehind_125 : decode cX0_nextBehind 125 = .ok (.iload 6, 2) := by decide +kernel
theorem dX0_nextBehind_127 : decode cX0_nextBehind 127 = .ok (.bipush 8, 2) := by decide +kernel
theorem dX0_nextBehind_129 : decode cX0_nextBehind 129 = .ok (.invokevirtual 30, 3) := by decide +kernel
theorem dX0_nextBehind_132 : decode cX0_nextBehind 132 = .ok (.if_icmp .ge 7, 3) := by decide +kernel
theorem dX0_nextBehind_139 : decode cX0_nextBehind 139 = .ok (.iconst 0, 1) := by decide +kernel
theorem dX0_burstFrom_0 : decode cX0_burstFrom 0 = .ok (.iload_n 3, 1) := by decide +kernel
theorem dX0_burstFrom_1 : decode cX0_burstFrom 1 = .ok (.istore 6, 2) := by decide +kernel
theorem dX0_burstFrom_3 : decode cX0_burstFrom 3 = .ok (.iconst 0, 1) := by decide +kernel
theorem dX0_burstFrom_4 : decode cX0_burstFrom 4 = .ok (.istore 7, 2) := by decide +kernel
theorem dX0_burstFrom_6 : decode cX0_burstFrom 6 = .ok (.iload 7, 2) := by decide +kernel
theorem dX0_burstFrom_8 : decode cX0_burstFrom 8 = .ok (.bipush 16, 2) := by decide +kernel
theorem dX0_burstFrom_10 : decode cX0_burstFrom 10 = .ok (.if_icmp .ge 53, 3) := by decide +kernel
theorem dX0_burstFrom_13 : decode cX0_burstFrom 13 = .ok (.aload_n 0, 1) := by decide +kernel
theorem dX0_burstFrom_14 : decode cX0_burstFrom 14 = .ok (.aload_n 1, 1) := by decide +kernel
theorem dX0_burstFrom_15 : decode cX0_burstFrom 15 = .ok (.iload 6, 2) := by decide +kernel
theorem dX0_burstFrom_17 : decode cX0_burstFrom 17 = .ok (.iload 4, 2) := by decide +kernel
theorem dX0_burstFrom_19 : decode cX0_burstFrom 19 = .ok (.iload 5, 2) := by decide +kernel
theorem dX0_burstFrom_21 : decode cX0_burstFrom 21 = .ok (.invokevirtual 118, 3) := by decide +kernel
theorem dX0_burstFrom_24 : decode cX0_burstFrom 24 = .ok (.istore 8, 2) := by decide +kernel
theorem dX0_burstFrom_26 : decode cX0_burstFrom 26 = .ok (.aload_n 1, 1) := by decide +kernel
theorem dX0_burstFrom_27 : decode cX0_burstFrom 27 = .ok (.iload 6, 2) := by decide +kernel
theorem dX0_burstFrom_29 : decode cX0_burstFrom 29 = .ok (.invokevirtual 108, 3) := by decide +kernel
theorem dX0_burstFrom_32 : decode cX0_burstFrom 32 = .ok (.iload 8, 2) := by decide +kernel
theorem dX0_burstFrom_34 : decode cX0_burstFrom 34 = .ok (.iconst (-1), 1) := by decide +kernel
theorem dX0_burstFrom_35 : decode cX0_burstFrom 35 = .ok (.if_icmp .eq 17, 3) := by decide +kernel
theorem dX0_burstFrom_38 : decode cX0_burstFrom 38 = .ok (.aload_n 1, 1) := by decide +kernel
theorem dX0_burstFrom_39 : decode cX0_burstFrom 39 = .ok (.getfield 18, 3) := by decide +kernel
theorem dX0_burstFrom_42 : decode cX0_burstFrom 42 = .ok (.iload 8, 2) := by decide +kernel
theorem dX0_burstFrom_44 : decode cX0_burstFrom 44 = .ok (.iconst 5, 1) := by decide +kernel
theorem dX0_burstFrom_45 : decode cX0_burstFrom 45 = .ok (.invokevirtual 30, 3) := by decide +kernel
theorem dX0_burstFrom_48 : decode cX0_burstFrom 48 = .ok (.iload_n 2, 1) := by decide +kernel
theorem dX0_burstFrom_49 : decode cX0_burstFrom 49 = .ok (.if_icmp .lt 4, 3) := by decide +kernel
theorem dX0_burstFrom_53 : decode cX0_burstFrom 53 = .ok (.iload 8, 2) := by decide +kernel
theorem dX0_burstFrom_55 : decode cX0_burstFrom 55 = .ok (.istore 6, 2) := by decide +kernel
theorem dX0_burstFrom_57 : decode cX0_burstFrom 57 = .ok (.iinc 7 1, 3) := by decide +kernel
theorem dX0_burstFrom_60 : decode cX0_burstFrom 60 = .ok (.goto (-54), 3) := by decide +kernel
theorem dX0_burstFrom_52 : decode cX0_burstFrom 52 = .ok (.return_, 1) := by decide +kernel
theorem dX0_burstFrom_63 : decode cX0_burstFrom 63 = .ok (.return_, 1) := by decide +kernel
theorem dX0_arrive_0 : decode cX0_arrive 0 = .ok (.aload_n 1, 1) := by decide +kernel
theorem dX0_arrive_1 : decode cX0_arrive 1 = .ok (.getfield 18, 3) := by decide +kernel
theorem dX0_arrive_4 : decode cX0_arrive 4 = .ok (.iload_n 3, 1) := by decide +kernel
theorem dX0_arrive_5 : decode cX0_arrive 5 = .ok (.iconst 2, 1) := by decide +kernel
theorem dX0_arrive_6 : decode cX0_arrive 6 = .ok (.invokevirtual 30, 3) := by decide +kernel
theorem dX0_arrive_9 : decode cX0_arrive 9 = .ok (.istore 4, 2) := by decide +kernel
theorem dX0_arrive_11 : decode cX0_arrive 11 = .ok (.aload_n 1, 1) := by decide +kernel
theorem dX0_arrive_12 : decode cX0_arrive 12 = .ok (.getfield 18, 3) := by decide +kernel
theorem dX0_arrive_15 : decode cX0_arrive 15 = .ok (.iload_n 3, 1) := by decide +kernel
theorem dX0_arrive_16 : decode cX0_arrive 16 = .ok (.iconst 4, 1) := by decide +kernel
theorem dX0_arrive_17 : decode cX0_arrive 17 = .ok (.invokevirtual 30, 3) := by decide +kernel
theorem dX0_arrive_20 : decode cX0_arrive 20 = .ok (.istore 5, 2) := by decide +kernel
theorem dX0_arrive_22 : decode cX0_arrive 22 = .ok (.aload_n 1, 1) := by decide +kernel
theorem dX0_arrive_23 : decode cX0_arrive 23 = .ok (.iload_n 3, 1) := by decide +kernel
theorem dX0_arrive_24 : decode cX0_arrive 24 = .ok (.iload 5, 2) := by decide +kernel
theorem dX0_arrive_26 : decode cX0_arrive 26 = .ok (.invokevirtual 97, 3) := by decide +kernel
theorem dX0_arrive_29 : decode cX0_arrive 29 = .ok (.aload_n 0, 1) := by decide +kernel
theorem dX0_arrive_30 : decode cX0_arrive 30 = .ok (.getfield 12, 3) := by decide +kernel
theorem dX0_arrive_33 : decode cX0_arrive 33 = .ok (.aload_n 1, 1) := by decide +kernel
theorem dX0_arrive_34 : decode cX0_arrive 34 = .ok (.aload_n 1, 1) := by decide +kernel
theorem dX0_arrive_35 : decode cX0_arrive 35 = .ok (.getfield 41, 3) := by decide +kernel
theorem dX0_arrive_38 : decode cX0_arrive 38 = .ok (.iconst 1, 1) := by decide +kernel
theorem dX0_arrive_39 : decode cX0_arrive 39 = .ok (.iadd, 1) := by decide +kernel
theorem dX0_arrive_40 : decode cX0_arrive 40 = .ok (.invokevirtual 74, 3) := by decide +kernel
theorem dX0_arrive_43 : decode cX0_arrive 43 = .ok (.aload_n 0, 1) := by decide +kernel
theorem dX0_arrive_44 : decode cX0_arrive 44 = .ok (.getfield 12, 3) := by decide +kernel
theorem dX0_arrive_47 : decode cX0_arrive 47 = .ok (.aload_n 1, 1) := by decide +kernel
theorem dX0_arrive_48 : decode cX0_arrive 48 = .ok (.iload 5, 2) := by decide +kernel
theorem dX0_arrive_50 : decode cX0_arrive 50 = .ok (.invokevirtual 70, 3) := by decide +kernel
theorem dX0_arrive_53 : decode cX0_arrive 53 = .ok (.aload_n 0, 1) := by decide +kernel
theorem dX0_arrive_54 : decode cX0_arrive 54 = .ok (.aload_n 1, 1) := by decide +kernel
theorem dX0_arrive_55 : decode cX0_arrive 55 = .ok (.iload_n 3, 1) := by decide +kernel
theorem dX0_arrive_56 : decode cX0_arrive 56 = .ok (.invokevirtual 77, 3) := by decide +kernel
theorem dX0_arrive_59 : decode cX0_arrive 59 = .ok (.aload_n 1, 1) := by decide +kernel
theorem dX0_arrive_60 : decode cX0_arrive 60 = .ok (.getfield 18, 3) := by decide +kernel
theorem dX0_arrive_63 : decode cX0_arrive 63 = .ok (.iload_n 3, 1) := by decide +kernel
theorem dX0_arrive_64 : decode cX0_arrive 64 = .ok (.iconst 0, 1) := by decide +kernel
theorem dX0_arrive_65 : decode cX0_arrive 65 = .ok (.invokevirtual 30, 3) := by decide +kernel
theorem dX0_arrive_68 : decode cX0_arrive 68 = .ok (.istore 6, 2) := by decide +kernel
theorem dX0_arrive_70 : decode cX0_arrive 70 = .ok (.iload 6, 2) := by decide +kernel
theorem dX0_arrive_72 : decode cX0_arrive 72 = .ok (.aload_n 2, 1) := by decide +kernel
theorem dX0_arrive_73 : decode cX0_arrive 73 = .ok (.iconst 2, 1) := by decide +kernel
theorem dX0_arrive_74 : decode cX0_arrive 74 = .ok (.aload_n 0, 1) := by decide +kernel
theorem dX0_arrive_75 : decode cX0_arrive 75 = .ok (.getfield 12, 3) := by decide +kernel
theorem dX0_arrive_78 : decode cX0_arrive 78 = .ok (.getfield 80, 3) := by decide +kernel
theorem dX0_arrive_81 : decode cX0_arrive 81 = .ok (.invokevirtual 84, 3) := by decide +kernel
theorem dX0_arrive_84 : decode cX0_arrive 84 = .ok (.bipush 100, 2) := by decide +kernel
theorem dX0_arrive_86 : decode cX0_arrive 86 = .ok (.invokestatic 90, 3) := by decide +kernel
theorem dX0_arrive_89 : decode cX0_arrive 89 = .ok (.imul, 1) := by decide +kernel
theorem dX0_arrive_90 : decode cX0_arrive 90 = .ok (.bipush 100, 2) := by decide +kernel
theorem dX0_arrive_92 : decode cX0_arrive 92 = .ok (.idiv, 1) := by decide +kernel
theorem dX0_arrive_93 : decode cX0_arrive 93 = .ok (.istore 7, 2) := by decide +kernel
theorem dX0_arrive_95 : decode cX0_arrive 95 = .ok (.aload_n 1, 1) := by decide +kernel
theorem dX0_arrive_96 : decode cX0_arrive 96 = .ok (.getfield 18, 3) := by decide +kernel
theorem dX0_arrive_99 : decode cX0_arrive 99 = .ok (.iload_n 3, 1) := by decide +kernel
theorem dX0_arrive_100 : decode cX0_arrive 100 = .ok (.iconst 0, 1) := by decide +kernel
theorem dX0_arrive_101 : decode cX0_arrive 101 = .ok (.iload 6, 2) := by decide +kernel
theorem dX0_arrive_103 : decode cX0_arrive 103 = .ok (.iload 7, 2) := by decide +kernel
theorem dX0_arrive_105 : decode cX0_arrive 105 = .ok (.isub, 1) := by decide +kernel
theorem dX0_arrive_106 : decode cX0_arrive 106 = .ok (.invokevirtual 48, 3) := by decide +kernel
theorem dX0_arrive_109 : decode cX0_arrive 109 = .ok (.aload_n 1, 1) := by decide +kernel
theorem dX0_arrive_110 : decode cX0_arrive 110 = .ok (.iload 5, 2) := by decide +kernel
theorem dX0_arrive_112 : decode cX0_arrive 112 = .ok (.iload 7, 2) := by decide +kernel
theorem dX0_arrive_114 : decode cX0_arrive 114 = .ok (.invokevirtual 101, 3) := by decide +kernel
theorem dX0_arrive_117 : decode cX0_arrive 117 = .ok (.pop, 1) := by decide +kernel
theorem dX0_arrive_118 : decode cX0_arrive 118 = .ok (.aload_n 1, 1) := by decide +kernel
theorem dX0_arrive_119 : decode cX0_arrive 119 = .ok (.invokevirtual 104, 3) := by decide +kernel
theorem dX0_arrive_122 : decode cX0_arrive 122 = .ok (.sipush 1000, 3) := by decide +kernel
theorem dX0_arrive_125 : decode cX0_arrive 125 = .ok (.irem, 1) := by decide +kernel
theorem dX0_arrive_126 : decode cX0_arrive 126 = .ok (.aload_n 1, 1) := by decide +kernel
theorem dX0_arrive_127 : decode cX0_arrive 127 = .ok (.getfield 56, 3) := by decide +kernel
theorem dX0_arrive_130 : decode cX0_arrive 130 = .ok (.iload 4, 2) := by decide +kernel
theorem dX0_arrive_132 : decode cX0_arrive 132 = .ok (.iconst 4, 1) := by decide +kernel
theorem dX0_arrive_133 : decode cX0_arrive 133 = .ok (.invokevirtual 30, 3) := by decide +kernel
theorem dX0_arrive_136 : decode cX0_arrive 136 = .ok (.if_icmp .ge 9, 3) := by decide +kernel
theorem dX0_arrive_145 : decode cX0_arrive 145 = .ok (.aload_n 0, 1) := by decide +kernel
theorem dX0_arrive_146 : decode cX0_arrive 146 = .ok (.aload_n 1, 1) := by decide +kernel
theorem dX0_arrive_147 : decode cX0_arrive 147 = .ok (.iload_n 3, 1) := by decide +kernel
theorem dX0_arrive_148 : decode cX0_arrive 148 = .ok (.invokevirtual 77, 3) := by decide +kernel
theorem dX0_arrive_151 : decode cX0_arrive 151 = .ok (.aload_n 1, 1) := by decide +kernel
theorem dX0_arrive_152 : decode cX0_arrive 152 = .ok (.invokevirtual 104, 3) := by decide +kernel
theorem dX0_arrive_155 : decode cX0_arrive 155 = .ok (.sipush 1000, 3) := by decide +kernel
theorem dX0_arrive_158 : decode cX0_arrive 158 = .ok (.irem, 1) := by decide +kernel
theorem dX0_arrive_159 : decode cX0_arrive 159 = .ok (.aload_n 2, 1) := by decide +kernel
theorem dX0_arrive_160 : decode cX0_arrive 160 = .ok (.iconst 3, 1) := by decide +kernel
theorem dX0_arrive_161 : decode cX0_arrive 161 = .ok (.aload_n 0, 1) := by decide +kernel
theorem dX0_arrive_162 : decode cX0_arrive 162 = .ok (.getfield 12, 3) := by decide +kernel
theorem dX0_arrive_165 : decode cX0_arrive 165 = .ok (.getfield 80, 3) := by decide +kernel
theorem dX0_arrive_168 : decode cX0_arrive 168 = .ok (.invokevirtual 84, 3) := by decide +kernel
theorem dX0_arrive_171 : decode cX0_arrive 171 = .ok (.sipush 1000, 3) := by decide +kernel
theorem dX0_arrive_174 : decode cX0_arrive 174 = .ok (.invokestatic 90, 3) := by decide +kernel
theorem dX0_arrive_177 : decode cX0_arrive 177 = .ok (.if_icmp .ge 17, 3) := by decide +kernel
theorem dX0_arrive_180 : decode cX0_arrive 180 = .ok (.aload_n 0, 1) := by decide +kernel
theorem dX0_arrive_181 : decode cX0_arrive 181 = .ok (.aload_n 1, 1) := by decide +kernel
theorem dX0_arrive_182 : decode cX0_arrive 182 = .ok (.aload_n 2, 1) := by decide +kernel
theorem dX0_arrive_183 : decode cX0_arrive 183 = .ok (.getfield 111, 3) := by decide +kernel
theorem dX0_arrive_186 : decode cX0_arrive 186 = .ok (.iload_n 3, 1) := by decide +kernel
theorem dX0_arrive_187 : decode cX0_arrive 187 = .ok (.iload 5, 2) := by decide +kernel
theorem dX0_arrive_189 : decode cX0_arrive 189 = .ok (.iload 4, 2) := by decide +kernel
theorem dX0_arrive_191 : decode cX0_arrive 191 = .ok (.invokevirtual 114, 3) := by decide +kernel
theorem dX0_arrive_139 : decode cX0_arrive 139 = .ok (.aload_n 1, 1) := by decide +kernel
theorem dX0_arrive_140 : decode cX0_arrive 140 = .ok (.iload_n 3, 1) := by decide +kernel
theorem dX0_arrive_141 : decode cX0_arrive 141 = .ok (.invokevirtual 108, 3) := by decide +kernel
theorem dX0_arrive_194 : decode cX0_arrive 194 = .ok (.return_, 1) := by decide +kernel
theorem dX0_arrive_144 : decode cX0_arrive 144 = .ok (.return_, 1) := by decide +kernel
theorem dX0_stepJar_0 : decode cX0_stepJar 0 = .ok (.aload_n 1, 1) := by decide +kernel
theorem dX0_stepJar_1 : decode cX0_stepJar 1 = .ok (.getfield 18, 3) := by decide +kernel
theorem dX0_stepJar_4 : decode cX0_stepJar 4 = .ok (.iload_n 3, 1) := by decide +kernel
theorem dX0_stepJar_5 : decode cX0_stepJar 5 = .ok (.iconst 0, 1) := by decide +kernel
theorem dX0_stepJar_6 : decode cX0_stepJar 6 = .ok (.invokevirtual 30, 3) := by decide +kernel
theorem dX0_stepJar_9 : decode cX0_stepJar 9 = .ok (.istore 4, 2) := by decide +kernel
theorem dX0_stepJar_11 : decode cX0_stepJar 11 = .ok (.aload_n 1, 1) := by decide +kernel
theorem dX0_stepJar_12 : decode cX0_stepJar 12 = .ok (.getfield 18, 3) := by decide +kernel
theorem dX0_stepJar_15 : decode cX0_stepJar 15 = .ok (.iload_n 3, 1) := by decide +kernel
theorem dX0_stepJar_16 : decode cX0_stepJar 16 = .ok (.iconst 0, 1) := by decide +kernel
theorem dX0_stepJar_17 : decode cX0_stepJar 17 = .ok (.iload 4, 2) := by decide +kernel
theorem dX0_stepJar_19 : decode cX0_stepJar 19 = .ok (.aload_n 0, 1) := by decide +kernel
theorem dX0_stepJar_20 : decode cX0_stepJar 20 = .ok (.aload_n 1, 1) := by decide +kernel
theorem dX0_stepJar_21 : decode cX0_stepJar 21 = .ok (.aload_n 2, 1) := by decide +kernel
theorem dX0_stepJar_22 : decode cX0_stepJar 22 = .ok (.iload_n 3, 1) := by decide +kernel
theorem dX0_stepJar_23 : decode cX0_stepJar 23 = .ok (.invokevirtual 52, 3) := by decide +kernel
theorem dX0_stepJar_26 : decode cX0_stepJar 26 = .ok (.isub, 1) := by decide +kernel
theorem dX0_stepJar_27 : decode cX0_stepJar 27 = .ok (.invokevirtual 48, 3) := by decide +kernel
theorem dX0_stepJar_30 : decode cX0_stepJar 30 = .ok (.aload_n 1, 1) := by decide +kernel
theorem dX0_stepJar_31 : decode cX0_stepJar 31 = .ok (.getfield 18, 3) := by decide +kernel
theorem dX0_stepJar_34 : decode cX0_stepJar 34 = .ok (.iload_n 3, 1) := by decide +kernel
theorem dX0_stepJar_35 : decode cX0_stepJar 35 = .ok (.iconst 1, 1) := by decide +kernel
theorem dX0_stepJar_36 : decode cX0_stepJar 36 = .ok (.invokevirtual 30, 3) := by decide +kernel
theorem dX0_stepJar_39 : decode cX0_stepJar 39 = .ok (.bipush 12, 2) := by decide +kernel
theorem dX0_stepJar_41 : decode cX0_stepJar 41 = .ok (.if_icmp .eq 4, 3) := by decide +kernel
theorem dX0_stepJar_45 : decode cX0_stepJar 45 = .ok (.aload_n 1, 1) := by decide +kernel
theorem dX0_stepJar_46 : decode cX0_stepJar 46 = .ok (.getfield 18, 3) := by decide +kernel
theorem dX0_stepJar_49 : decode cX0_stepJar 49 = .ok (.iload_n 3, 1) := by decide +kernel
theorem dX0_stepJar_50 : decode cX0_stepJar 50 = .ok (.iconst 3, 1) := by decide +kernel
theorem dX0_stepJar_51 : decode cX0_stepJar 51 = .ok (.invokevirtual 30, 3) := by decide +kernel
theorem dX0_stepJar_54 : decode cX0_stepJar 54 = .ok (.iconst 1, 1) := by decide +kernel
theorem dX0_stepJar_55 : decode cX0_stepJar 55 = .ok (.iadd, 1) := by decide +kernel
theorem dX0_stepJar_56 : decode cX0_stepJar 56 = .ok (.istore 5, 2) := by decide +kernel
theorem dX0_stepJar_58 : decode cX0_stepJar 58 = .ok (.aload_n 1, 1) := by decide +kernel
theorem dX0_stepJar_59 : decode cX0_stepJar 59 = .ok (.getfield 18, 3) := by decide +kernel
theorem dX0_stepJar_62 : decode cX0_stepJar 62 = .ok (.iload_n 3, 1) := by decide +kernel
theorem dX0_stepJar_63 : decode cX0_stepJar 63 = .ok (.iconst 3, 1) := by decide +kernel
theorem dX0_stepJar_64 : decode cX0_stepJar 64 = .ok (.iload 5, 2) := by decide +kernel
theorem dX0_stepJar_66 : decode cX0_stepJar 66 = .ok (.invokevirtual 48, 3) := by decide +kernel
theorem dX0_stepJar_69 : decode cX0_stepJar 69 = .ok (.iload 5, 2) := by decide +kernel
theorem dX0_stepJar_71 : decode cX0_stepJar 71 = .ok (.aload_n 1, 1) := by decide +kernel
theorem dX0_stepJar_72 : decode cX0_stepJar 72 = .ok (.getfield 56, 3) := by decide +kernel
theorem dX0_stepJar_75 : decode cX0_stepJar 75 = .ok (.aload_n 1, 1) := by decide +kernel
theorem dX0_stepJar_76 : decode cX0_stepJar 76 = .ok (.getfield 18, 3) := by decide +kernel
theorem dX0_stepJar_79 : decode cX0_stepJar 79 = .ok (.iload_n 3, 1) := by decide +kernel
theorem dX0_stepJar_80 : decode cX0_stepJar 80 = .ok (.iconst 2, 1) := by decide +kernel
theorem dX0_stepJar_81 : decode cX0_stepJar 81 = .ok (.invokevirtual 30, 3) := by decide +kernel
theorem dX0_stepJar_84 : decode cX0_stepJar 84 = .ok (.iconst 2, 1) := by decide +kernel
theorem dX0_stepJar_85 : decode cX0_stepJar 85 = .ok (.invokevirtual 30, 3) := by decide +kernel
theorem dX0_stepJar_88 : decode cX0_stepJar 88 = .ok (.if_icmp .lt 10, 3) := by decide +kernel
theorem dX0_stepJar_91 : decode cX0_stepJar 91 = .ok (.aload_n 0, 1) := by decide +kernel
theorem dX0_stepJar_92 : decode cX0_stepJar 92 = .ok (.aload_n 1, 1) := by decide +kernel
theorem dX0_stepJar_93 : decode cX0_stepJar 93 = .ok (.aload_n 2, 1) := by decide +kernel
theorem dX0_stepJar_94 : decode cX0_stepJar 94 = .ok (.iload_n 3, 1) := by decide +kernel
theorem dX0_stepJar_95 : decode cX0_stepJar 95 = .ok (.invokevirtual 59, 3) := by decide +kernel
theorem dX0_stepJar_98 : decode cX0_stepJar 98 = .ok (.return_, 1) := by decide +kernel
theorem dX0_stepJar_44 : decode cX0_stepJar 44 = .ok (.return_, 1) := by decide +kernel
theorem dX0_step_0 : decode cX0_step 0 = .ok (.iconst 0, 1) := by decide +kernel
theorem dX0_step_1 : decode cX0_step 1 = .ok (.istore_n 3, 1) := by decide +kernel
theorem dX0_step_2 : decode cX0_step 2 = .ok (.iload_n 3, 1) := by decide +kernel
theorem dX0_step_3 : decode cX0_step 3 = .ok (.aload_n 1, 1) := by decide +kernel
theorem dX0_step_4 : decode cX0_step 4 = .ok (.getfield 18, 3) := by decide +kernel
theorem dX0_step_7 : decode cX0_step 7 = .ok (.getfield 24, 3) := by decide +kernel
theorem dX0_step_10 : decode cX0_step 10 = .ok (.if_icmp .ge 30, 3) := by decide +kernel
theorem dX0_step_13 : decode cX0_step 13 = .ok (.aload_n 1, 1) := by decide +kernel
theorem dX0_step_14 : decode cX0_step 14 = .ok (.getfield 18, 3) := by decide +kernel
theorem dX0_step_17 : decode cX0_step 17 = .ok (.iload_n 3, 1) := by decide +kernel
theorem dX0_step_18 : decode cX0_step 18 = .ok (.iconst 1, 1) := by decide +kernel
theorem dX0_step_19 : decode cX0_step 19 = .ok (.invokevirtual 30, 3) := by decide +kernel
theorem dX0_step_22 : decode cX0_step 22 = .ok (.bipush 13, 2) := by decide +kernel
theorem dX0_step_24 : decode cX0_step 24 = .ok (.if_icmp .eq 10, 3) := by decide +kernel
theorem dX0_step_34 : decode cX0_step 34 = .ok (.iinc 3 1, 3) := by decide +kernel
theorem dX0_step_37 : decode cX0_step 37 = .ok (.goto (-35), 3) := by decide +kernel
theorem dX0_step_27 : decode cX0_step 27 = .ok (.aload_n 0, 1) := by decide +kernel
theorem dX0_step_28 : decode cX0_step 28 = .ok (.aload_n 1, 1) := by decide +kernel
theorem dX0_step_29 : decode cX0_step 29 = .ok (.aload_n 2, 1) := by decide +kernel
theorem dX0_step_30 : decode cX0_step 30 = .ok (.iload_n 3, 1) := by decide +kernel
theorem dX0_step_31 : decode cX0_step 31 = .ok (.invokevirtual 34, 3) := by decide +kernel
theorem dX0_step_40 : decode cX0_step 40 = .ok (.iconst 0, 1) := by decide +kernel
theorem dX0_step_41 : decode cX0_step 41 = .ok (.istore_n 3, 1) := by decide +kernel
theorem dX0_step_42 : decode cX0_step 42 = .ok (.iload_n 3, 1) := by decide +kernel
theorem dX0_step_43 : decode cX0_step 43 = .ok (.aload_n 1, 1) := by decide +kernel
theorem dX0_step_44 : decode cX0_step 44 = .ok (.getfield 38, 3) := by decide +kernel
theorem dX0_step_47 : decode cX0_step 47 = .ok (.getfield 24, 3) := by decide +kernel
theorem dX0_step_50 : decode cX0_step 50 = .ok (.if_icmp .ge 45, 3) := by decide +kernel
theorem dX0_step_53 : decode cX0_step 53 = .ok (.aload_n 1, 1) := by decide +kernel
theorem dX0_step_54 : decode cX0_step 54 = .ok (.getfield 38, 3) := by decide +kernel
theorem dX0_step_57 : decode cX0_step 57 = .ok (.iload_n 3, 1) := by decide +kernel
theorem dX0_step_58 : decode cX0_step 58 = .ok (.iconst 3, 1) := by decide +kernel
theorem dX0_step_59 : decode cX0_step 59 = .ok (.invokevirtual 30, 3) := by decide +kernel
theorem dX0_step_62 : decode cX0_step 62 = .ok (.istore 4, 2) := by decide +kernel
theorem dX0_step_64 : decode cX0_step 64 = .ok (.aload_n 1, 1) := by decide +kernel
theorem dX0_step_65 : decode cX0_step 65 = .ok (.getfield 38, 3) := by decide +kernel
theorem dX0_step_68 : decode cX0_step 68 = .ok (.iload_n 3, 1) := by decide +kernel
theorem dX0_step_69 : decode cX0_step 69 = .ok (.iconst 3, 1) := by decide +kernel
theorem dX0_step_70 : decode cX0_step 70 = .ok (.iload 4, 2) := by decide +kernel
theorem dX0_step_72 : decode cX0_step 72 = .ok (.aload_n 0, 1) := by decide +kernel
theorem dX0_step_73 : decode cX0_step 73 = .ok (.aload_n 1, 1) := by decide +kernel
theorem dX0_step_74 : decode cX0_step 74 = .ok (.aload_n 2, 1) := by decide +kernel
theorem dX0_step_75 : decode cX0_step 75 = .ok (.iload_n 3, 1) := by decide +kernel
theorem dX0_step_76 : decode cX0_step 76 = .ok (.aload_n 1, 1) := by decide +kernel
theorem dX0_step_77 : decode cX0_step 77 = .ok (.getfield 41, 3) := by decide +kernel
theorem dX0_step_80 : decode cX0_step 80 = .ok (.iload 4, 2) := by decide +kernel
theorem dX0_step_82 : decode cX0_step 82 = .ok (.invokevirtual 44, 3) := by decide +kernel
theorem dX0_step_85 : decode cX0_step 85 = .ok (.isub, 1) := by decide +kernel
theorem dX0_step_86 : decode cX0_step 86 = .ok (.invokevirtual 48, 3) := by decide +kernel
theorem dX0_step_89 : decode cX0_step 89 = .ok (.iinc 3 1, 3) := by decide +kernel
theorem dX0_step_92 : decode cX0_step 92 = .ok (.goto (-50), 3) := by decide +kernel
theorem dX0_step_95 : decode cX0_step 95 = .ok (.aload_n 1, 1) := by decide +kernel
theorem dX0_step_96 : decode cX0_step 96 = .ok (.dup, 1) := by decide +kernel
theorem dX0_step_97 : decode cX0_step 97 = .ok (.getfield 41, 3) := by decide +kernel
theorem dX0_step_100 : decode cX0_step 100 = .ok (.iconst 1, 1) := by decide +kernel
theorem dX0_step_101 : decode cX0_step 101 = .ok (.iadd, 1) := by decide +kernel
theorem dX0_step_102 : decode cX0_step 102 = .ok (.putfield 41, 3) := by decide +kernel
theorem dX0_step_105 : decode cX0_step 105 = .ok (.return_, 1) := by decide +kernel
theorem dX0_owedAt_0 : decode cX0_owedAt 0 = .ok (.iconst 0, 1) := by decide +kernel
theorem dX0_owedAt_1 : decode cX0_owedAt 1 = .ok (.istore_n 3, 1) := by decide +kernel
theorem dX0_owedAt_2 : decode cX0_owedAt 2 = .ok (.iconst 0, 1) := by decide +kernel
theorem dX0_owedAt_3 : decode cX0_owedAt 3 = .ok (.istore 4, 2) := by decide +kernel
theorem dX0_owedAt_5 : decode cX0_owedAt 5 = .ok (.iload 4, 2) := by decide +kernel
theorem dX0_owedAt_7 : decode cX0_owedAt 7 = .ok (.aload_n 1, 1) := by decide +kernel
theorem dX0_owedAt_8 : decode cX0_owedAt 8 = .ok (.getfield 130, 3) := by decide +kernel
theorem dX0_owedAt_11 : decode cX0_owedAt 11 = .ok (.getfield 24, 3) := by decide +kernel
theorem dX0_owedAt_14 : decode cX0_owedAt 14 = .ok (.if_icmp .ge 88, 3) := by decide +kernel
theorem dX0_owedAt_17 : decode cX0_owedAt 17 = .ok (.aload_n 1, 1) := by decide +kernel
theorem dX0_owedAt_18 : decode cX0_owedAt 18 = .ok (.getfield 130, 3) := by decide +kernel
theorem dX0_owedAt_21 : decode cX0_owedAt 21 = .ok (.iload 4, 2) := by decide +kernel
theorem dX0_owedAt_23 : decode cX0_owedAt 23 = .ok (.iconst 1, 1) := by decide +kernel
theorem dX0_owedAt_24 : decode cX0_owedAt 24 = .ok (.invokevirtual 30, 3) := by decide +kernel
theorem dX0_owedAt_27 : decode cX0_owedAt 27 = .ok (.bipush 24, 2) := by decide +kernel
theorem dX0_owedAt_29 : decode cX0_owedAt 29 = .ok (.imul, 1) := by decide +kernel
theorem dX0_owedAt_30 : decode cX0_owedAt 30 = .ok (.bipush 12, 2) := by decide +kernel
theorem dX0_owedAt_32 : decode cX0_owedAt 32 = .ok (.iadd, 1) := by decide +kernel
theorem dX0_owedAt_33 : decode cX0_owedAt 33 = .ok (.istore 5, 2) := by decide +kernel
theorem dX0_owedAt_35 : decode cX0_owedAt 35 = .ok (.iload 5, 2) := by decide +kernel
theorem dX0_owedAt_37 : decode cX0_owedAt 37 = .ok (.aload_n 1, 1) := by decide +kernel
theorem dX0_owedAt_38 : decode cX0_owedAt 38 = .ok (.getfield 41, 3) := by decide +kernel
theorem dX0_owedAt_41 : decode cX0_owedAt 41 = .ok (.if_icmp .lt 20, 3) := by decide +kernel
theorem dX0_owedAt_61 : decode cX0_owedAt 61 = .ok (.iconst 0, 1) := by decide +kernel
theorem dX0_owedAt_62 : decode cX0_owedAt 62 = .ok (.istore 6, 2) := by decide +kernel
theorem dX0_owedAt_64 : decode cX0_owedAt 64 = .ok (.iload 6, 2) := by decide +kernel
theorem dX0_owedAt_66 : decode cX0_owedAt 66 = .ok (.ifCond .eq 30, 3) := by decide +kernel
theorem dX0_owedAt_96 : decode cX0_owedAt 96 = .ok (.iinc 4 1, 3) := by decide +kernel
theorem dX0_owedAt_99 : decode cX0_owedAt 99 = .ok (.goto (-94), 3) := by decide +kernel
theorem dX0_owedAt_44 : decode cX0_owedAt 44 = .ok (.iload 5, 2) := by decide +kernel
theorem dX0_owedAt_46 : decode cX0_owedAt 46 = .ok (.aload_n 1, 1) := by decide +kernel
theorem dX0_owedAt_47 : decode cX0_owedAt 47 = .ok (.getfield 41, 3) := by decide +kernel
theorem dX0_owedAt_50 : decode cX0_owedAt 50 = .ok (.sipush 1440, 3) := by decide +kernel
theorem dX0_owedAt_53 : decode cX0_owedAt 53 = .ok (.iadd, 1) := by decide +kernel
theorem dX0_owedAt_54 : decode cX0_owedAt 54 = .ok (.if_icmp .ge 7, 3) := by decide +kernel
theorem dX0_owedAt_57 : decode cX0_owedAt 57 = .ok (.iconst 1, 1) := by decide +kernel
theorem dX0_owedAt_58 : decode cX0_owedAt 58 = .ok (.goto 4, 3) := by decide +kernel
theorem dX0_owedAt_69 : decode cX0_owedAt 69 = .ok (.aload_n 1, 1) := by decide +kernel
theorem dX0_owedAt_70 : decode cX0_owedAt 70 = .ok (.getfield 130, 3) := by decide +kernel
theorem dX0_owedAt_73 : decode cX0_owedAt 73 = .ok (.iload 4, 2) := by decide +kernel
theorem dX0_owedAt_75 : decode cX0_owedAt 75 = .ok (.iconst 0, 1) := by decide +kernel
theorem dX0_owedAt_76 : decode cX0_owedAt 76 = .ok (.invokevirtual 30, 3) := by decide +kernel
theorem dX0_owedAt_79 : decode cX0_owedAt 79 = .ok (.iload_n 2, 1) := by decide +kernel
theorem dX0_owedAt_80 : decode cX0_owedAt 80 = .ok (.if_icmp .ne 16, 3) := by decide +kernel
theorem dX0_owedAt_83 : decode cX0_owedAt 83 = .ok (.iload_n 3, 1) := by decide +kernel
theorem dX0_owedAt_84 : decode cX0_owedAt 84 = .ok (.aload_n 1, 1) := by decide +kernel
theorem dX0_owedAt_85 : decode cX0_owedAt 85 = .ok (.getfield 130, 3) := by decide +kernel
theorem dX0_owedAt_88 : decode cX0_owedAt 88 = .ok (.iload 4, 2) := by decide +kernel
theorem dX0_owedAt_90 : decode cX0_owedAt 90 = .ok (.iconst 2, 1) := by decide +kernel
theorem dX0_owedAt_91 : decode cX0_owedAt 91 = .ok (.invokevirtual 30, 3) := by decide +kernel
theorem dX0_owedAt_94 : decode cX0_owedAt 94 = .ok (.iadd, 1) := by decide +kernel
theorem dX0_owedAt_95 : decode cX0_owedAt 95 = .ok (.istore_n 3, 1) := by decide +kernel
theorem dX0_owedAt_102 : decode cX0_owedAt 102 = .ok (.iload_n 3, 1) := by decide +kernel
theorem dX0_owedAt_103 : decode cX0_owedAt 103 = .ok (.ireturn, 1) := by decide +kernel
theorem dX0_eatenOn_0 : decode cX0_eatenOn 0 = .ok (.iconst 0, 1) := by decide +kernel
theorem dX0_eatenOn_1 : decode cX0_eatenOn 1 = .ok (.istore 4, 2) := by decide +kernel
theorem dX0_eatenOn_3 : decode cX0_eatenOn 3 = .ok (.iconst 0, 1) := by decide +kernel
theorem dX0_eatenOn_4 : decode cX0_eatenOn 4 = .ok (.istore 5, 2) := by decide +kernel
theorem dX0_eatenOn_6 : decode cX0_eatenOn 6 = .ok (.iload 5, 2) := by decide +kernel
theorem dX0_eatenOn_8 : decode cX0_eatenOn 8 = .ok (.aload_n 1, 1) := by decide +kernel
theorem dX0_eatenOn_9 : decode cX0_eatenOn 9 = .ok (.getfield 130, 3) := by decide +kernel
theorem dX0_eatenOn_12 : decode cX0_eatenOn 12 = .ok (.getfield 24, 3) := by decide +kernel
theorem dX0_eatenOn_15 : decode cX0_eatenOn 15 = .ok (.if_icmp .ge 52, 3) := by decide +kernel
theorem dX0_eatenOn_18 : decode cX0_eatenOn 18 = .ok (.aload_n 1, 1) := by decide +kernel
theorem dX0_eatenOn_19 : decode cX0_eatenOn 19 = .ok (.getfield 130, 3) := by decide +kernel
theorem dX0_eatenOn_22 : decode cX0_eatenOn 22 = .ok (.iload 5, 2) := by decide +kernel
theorem dX0_eatenOn_24 : decode cX0_eatenOn 24 = .ok (.iconst 1, 1) := by decide +kernel
theorem dX0_eatenOn_25 : decode cX0_eatenOn 25 = .ok (.invokevirtual 30, 3) := by decide +kernel
theorem dX0_eatenOn_28 : decode cX0_eatenOn 28 = .ok (.iload_n 3, 1) := by decide +kernel
theorem dX0_eatenOn_29 : decode cX0_eatenOn 29 = .ok (.if_icmp .ne 32, 3) := by decide +kernel
theorem dX0_eatenOn_61 : decode cX0_eatenOn 61 = .ok (.iinc 5 1, 3) := by decide +kernel
theorem dX0_eatenOn_64 : decode cX0_eatenOn 64 = .ok (.goto (-58), 3) := by decide +kernel
theorem dX0_eatenOn_32 : decode cX0_eatenOn 32 = .ok (.aload_n 1, 1) := by decide +kernel
theorem dX0_eatenOn_33 : decode cX0_eatenOn 33 = .ok (.getfield 130, 3) := by decide +kernel
theorem dX0_eatenOn_36 : decode cX0_eatenOn 36 = .ok (.iload 5, 2) := by decide +kernel
theorem dX0_eatenOn_38 : decode cX0_eatenOn 38 = .ok (.iconst 0, 1) := by decide +kernel
theorem dX0_eatenOn_39 : decode cX0_eatenOn 39 = .ok (.invokevirtual 30, 3) := by decide +kernel
theorem dX0_eatenOn_42 : decode cX0_eatenOn 42 = .ok (.iload_n 2, 1) := by decide +kernel
theorem dX0_eatenOn_43 : decode cX0_eatenOn 43 = .ok (.if_icmp .ne 18, 3) := by decide +kernel
theorem dX0_eatenOn_46 : decode cX0_eatenOn 46 = .ok (.iload 4, 2) := by decide +kernel
theorem dX0_eatenOn_48 : decode cX0_eatenOn 48 = .ok (.aload_n 1, 1) := by decide +kernel
theorem dX0_eatenOn_49 : decode cX0_eatenOn 49 = .ok (.getfield 130, 3) := by decide +kernel
theorem dX0_eatenOn_52 : decode cX0_eatenOn 52 = .ok (.iload 5, 2) := by decide +kernel
theorem dX0_eatenOn_54 : decode cX0_eatenOn 54 = .ok (.iconst 2, 1) := by decide +kernel
theorem dX0_eatenOn_55 : decode cX0_eatenOn 55 = .ok (.invokevirtual 30, 3) := by decide +kernel
theorem dX0_eatenOn_58 : decode cX0_eatenOn 58 = .ok (.iadd, 1) := by decide +kernel
theorem dX0_eatenOn_59 : decode cX0_eatenOn 59 = .ok (.istore 4, 2) := by decide +kernel
theorem dX0_eatenOn_67 : decode cX0_eatenOn 67 = .ok (.iload 4, 2) := by decide +kernel
theorem dX0_eatenOn_69 : decode cX0_eatenOn 69 = .ok (.ireturn, 1) := by decide +kernel
theorem dX0_lasts_0 : decode cX0_lasts 0 = .ok (.iload 4, 2) := by decide +kernel
theorem dX0_lasts_2 : decode cX0_lasts 2 = .ok (.istore 5, 2) := by decide +kernel
theorem dX0_lasts_4 : decode cX0_lasts 4 = .ok (.aload_n 0, 1) := by decide +kernel
theorem dX0_lasts_5 : decode cX0_lasts 5 = .ok (.aload_n 1, 1) := by decide +kernel
theorem dX0_lasts_6 : decode cX0_lasts 6 = .ok (.iload_n 3, 1) := by decide +kernel
theorem dX0_lasts_7 : decode cX0_lasts 7 = .ok (.invokevirtual 122, 3) := by decide +kernel
theorem dX0_lasts_10 : decode cX0_lasts 10 = .ok (.istore 6, 2) := by decide +kernel
theorem dX0_lasts_12 : decode cX0_lasts 12 = .ok (.iconst 0, 1) := by decide +kernel
theorem dX0_lasts_13 : decode cX0_lasts 13 = .ok (.istore 7, 2) := by decide +kernel
theorem dX0_lasts_15 : decode cX0_lasts 15 = .ok (.iload 7, 2) := by decide +kernel
theorem dX0_lasts_17 : decode cX0_lasts 17 = .ok (.sipush 1440, 3) := by decide +kernel
theorem dX0_lasts_20 : decode cX0_lasts 20 = .ok (.if_icmp .ge 85, 3) := by decide +kernel
theorem dX0_lasts_23 : decode cX0_lasts 23 = .ok (.iload 6, 2) := by decide +kernel
theorem dX0_lasts_25 : decode cX0_lasts 25 = .ok (.ifCond .le 80, 3) := by decide +kernel
theorem dX0_lasts_28 : decode cX0_lasts 28 = .ok (.iload 5, 2) := by decide +kernel
theorem dX0_lasts_30 : decode cX0_lasts 30 = .ok (.iload 6, 2) := by decide +kernel
theorem dX0_lasts_32 : decode cX0_lasts 32 = .ok (.if_icmp .ge 5, 3) := by decide +kernel
theorem dX0_lasts_37 : decode cX0_lasts 37 = .ok (.aload_n 1, 1) := by decide +kernel
theorem dX0_lasts_38 : decode cX0_lasts 38 = .ok (.getfield 41, 3) := by decide +kernel
theorem dX0_lasts_41 : decode cX0_lasts 41 = .ok (.iload 7, 2) := by decide +kernel
theorem dX0_lasts_43 : decode cX0_lasts 43 = .ok (.iadd, 1) := by decide +kernel
theorem dX0_lasts_44 : decode cX0_lasts 44 = .ok (.istore 8, 2) := by decide +kernel
theorem dX0_lasts_46 : decode cX0_lasts 46 = .ok (.iload 8, 2) := by decide +kernel
theorem dX0_lasts_48 : decode cX0_lasts 48 = .ok (.bipush 24, 2) := by decide +kernel
theorem dX0_lasts_50 : decode cX0_lasts 50 = .ok (.irem, 1) := by decide +kernel
theorem dX0_lasts_51 : decode cX0_lasts 51 = .ok (.bipush 12, 2) := by decide +kernel
theorem dX0_lasts_53 : decode cX0_lasts 53 = .ok (.if_icmp .ne 30, 3) := by decide +kernel
theorem dX0_lasts_83 : decode cX0_lasts 83 = .ok (.iload 5, 2) := by decide +kernel
theorem dX0_lasts_85 : decode cX0_lasts 85 = .ok (.aload_n 0, 1) := by decide +kernel
theorem dX0_lasts_86 : decode cX0_lasts 86 = .ok (.aload_n 1, 1) := by decide +kernel
theorem dX0_lasts_87 : decode cX0_lasts 87 = .ok (.aload_n 2, 1) := by decide +kernel
theorem dX0_lasts_88 : decode cX0_lasts 88 = .ok (.iload_n 3, 1) := by decide +kernel
theorem dX0_lasts_89 : decode cX0_lasts 89 = .ok (.iload 8, 2) := by decide +kernel
theorem dX0_lasts_91 : decode cX0_lasts 91 = .ok (.iload 5, 2) := by decide +kernel
theorem dX0_lasts_93 : decode cX0_lasts 93 = .ok (.invokevirtual 44, 3) := by decide +kernel
theorem dX0_lasts_96 : decode cX0_lasts 96 = .ok (.isub, 1) := by decide +kernel
theorem dX0_lasts_97 : decode cX0_lasts 97 = .ok (.istore 5, 2) := by decide +kernel
theorem dX0_lasts_99 : decode cX0_lasts 99 = .ok (.iinc 7 1, 3) := by decide +kernel
theorem dX0_lasts_102 : decode cX0_lasts 102 = .ok (.goto (-87), 3) := by decide +kernel
theorem dX0_lasts_56 : decode cX0_lasts 56 = .ok (.aload_n 0, 1) := by decide +kernel
theorem dX0_lasts_57 : decode cX0_lasts 57 = .ok (.aload_n 1, 1) := by decide +kernel
theorem dX0_lasts_58 : decode cX0_lasts 58 = .ok (.iload_n 3, 1) := by decide +kernel
theorem dX0_lasts_59 : decode cX0_lasts 59 = .ok (.iload 8, 2) := by decide +kernel
theorem dX0_lasts_61 : decode cX0_lasts 61 = .ok (.bipush 24, 2) := by decide +kernel
theorem dX0_lasts_63 : decode cX0_lasts 63 = .ok (.idiv, 1) := by decide +kernel
theorem dX0_lasts_64 : decode cX0_lasts 64 = .ok (.invokevirtual 126, 3) := by decide +kernel
theorem dX0_lasts_67 : decode cX0_lasts 67 = .ok (.istore 9, 2) := by decide +kernel
theorem dX0_lasts_69 : decode cX0_lasts 69 = .ok (.iload 5, 2) := by decide +kernel
theorem dX0_lasts_71 : decode cX0_lasts 71 = .ok (.iload 9, 2) := by decide +kernel
theorem dX0_lasts_73 : decode cX0_lasts 73 = .ok (.isub, 1) := by decide +kernel
theorem dX0_lasts_74 : decode cX0_lasts 74 = .ok (.istore 5, 2) := by decide +kernel
theorem dX0_lasts_76 : decode cX0_lasts 76 = .ok (.iload 6, 2) := by decide +kernel
theorem dX0_lasts_78 : decode cX0_lasts 78 = .ok (.iload 9, 2) := by decide +kernel
theorem dX0_lasts_80 : decode cX0_lasts 80 = .ok (.isub, 1) := by decide +kernel
theorem dX0_lasts_81 : decode cX0_lasts 81 = .ok (.istore 6, 2) := by decide +kernel
theorem dX0_lasts_35 : decode cX0_lasts 35 = .ok (.iconst 0, 1) := by decide +kernel
theorem dX0_lasts_105 : decode cX0_lasts 105 = .ok (.iconst 1, 1) := by decide +kernel
theorem dX0_lasts_36 : decode cX0_lasts 36 = .ok (.ireturn, 1) := by decide +kernel
theorem dX0_lasts_106 : decode cX0_lasts 106 = .ok (.ireturn, 1) := by decide +kernel

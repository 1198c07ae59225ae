theorem kX4_setHour_1 {a : Array Value} {s : State} (hts : ∀ w ∈ wsX4_setHour, w.before a s = true) : (.fieldLink RX4 11 "SnowMules$Scene" "words" "[I" : Cond).before a s = true := hts _ (List.mem_of_getElem? (i := 1) (by decide +kernel))
theorem kX4_setNode_1 {a : Array Value} {s : State} (hts : ∀ w ∈ wsX4_setNode, w.before a s = true) : (.fieldLink RX4 11 "SnowMules$Scene" "words" "[I" : Cond).before a s = true := hts _ (List.mem_of_getElem? (i := 1) (by decide +kernel))
theorem kX4_setNode_2 {a : Array Value} {s : State} (hts : ∀ w ∈ wsX4_setNode, w.before a s = true) : (.fieldLink RX4 21 "SnowMules$World" "nodes" "LSnowMules$Table;" : Cond).before a s = true := hts _ (List.mem_of_getElem? (i := 2) (by decide +kernel))
theorem kX4_setPass_1 {a : Array Value} {s : State} (hts : ∀ w ∈ wsX4_setPass, w.before a s = true) : (.fieldLink RX4 21 "SnowMules$World" "nodes" "LSnowMules$Table;" : Cond).before a s = true := hts _ (List.mem_of_getElem? (i := 1) (by decide +kernel))
theorem kX4_setPass_2 {a : Array Value} {s : State} (hts : ∀ w ∈ wsX4_setPass, w.before a s = true) : (.fieldLink RX4 34 "SnowMules$Scene" "heightBehind" "I" : Cond).before a s = true := hts _ (List.mem_of_getElem? (i := 2) (by decide +kernel))
theorem kX4_setPass_3 {a : Array Value} {s : State} (hts : ∀ w ∈ wsX4_setPass, w.before a s = true) : (.fieldLink RX4 38 "SnowMules$Scene" "heightAhead" "I" : Cond).before a s = true := hts _ (List.mem_of_getElem? (i := 3) (by decide +kernel))
theorem kX4_setPass_4 {a : Array Value} {s : State} (hts : ∀ w ∈ wsX4_setPass, w.before a s = true) : (.fieldLink RX4 41 "SnowMules$World" "passes" "LSnowMules$Table;" : Cond).before a s = true := hts _ (List.mem_of_getElem? (i := 4) (by decide +kernel))
theorem kX4_setPass_5 {a : Array Value} {s : State} (hts : ∀ w ∈ wsX4_setPass, w.before a s = true) : (.fieldLink RX4 44 "SnowMules$Scene" "hoursOfPass" "I" : Cond).before a s = true := hts _ (List.mem_of_getElem? (i := 5) (by decide +kernel))
theorem kX4_setPass_6 {a : Array Value} {s : State} (hts : ∀ w ∈ wsX4_setPass, w.before a s = true) : (.fieldLink RX4 11 "SnowMules$Scene" "words" "[I" : Cond).before a s = true := hts _ (List.mem_of_getElem? (i := 6) (by decide +kernel))
theorem kX4_setGone_1 {a : Array Value} {s : State} (hts : ∀ w ∈ wsX4_setGone, w.before a s = true) : (.fieldLink RX4 34 "SnowMules$Scene" "heightBehind" "I" : Cond).before a s = true := hts _ (List.mem_of_getElem? (i := 1) (by decide +kernel))
theorem kX4_setGone_2 {a : Array Value} {s : State} (hts : ∀ w ∈ wsX4_setGone, w.before a s = true) : (.fieldLink RX4 44 "SnowMules$Scene" "hoursOfPass" "I" : Cond).before a s = true := hts _ (List.mem_of_getElem? (i := 2) (by decide +kernel))
theorem kX4_setGone_3 {a : Array Value} {s : State} (hts : ∀ w ∈ wsX4_setGone, w.before a s = true) : (.fieldLink RX4 38 "SnowMules$Scene" "heightAhead" "I" : Cond).before a s = true := hts _ (List.mem_of_getElem? (i := 3) (by decide +kernel))
theorem kX4_setGone_4 {a : Array Value} {s : State} (hts : ∀ w ∈ wsX4_setGone, w.before a s = true) : (.fieldLink RX4 11 "SnowMules$Scene" "words" "[I" : Cond).before a s = true := hts _ (List.mem_of_getElem? (i := 4) (by decide +kernel))
theorem kX4_setLoad_1 {a : Array Value} {s : State} (hts : ∀ w ∈ wsX4_setLoad, w.before a s = true) : (.fieldLink RX4 11 "SnowMules$Scene" "words" "[I" : Cond).before a s = true := hts _ (List.mem_of_getElem? (i := 1) (by decide +kernel))
theorem iX4_setHour_X4 : ∀ w ∈ wsX40, w ∈ wsX4_setHour := by decide +kernel
theorem iX4_setNode_X4 : ∀ w ∈ wsX40, w ∈ wsX4_setNode := by decide +kernel
theorem iX4_setNode_X9 : ∀ w ∈ wsX90, w ∈ wsX4_setNode := by decide +kernel
theorem iX4_setPass_X9 : ∀ w ∈ wsX90, w ∈ wsX4_setPass := by decide +kernel
theorem iX4_setPass_X4 : ∀ w ∈ wsX40, w ∈ wsX4_setPass := by decide +kernel
theorem iX4_setGone_X4 : ∀ w ∈ wsX40, w ∈ wsX4_setGone := by decide +kernel
theorem iX4_setLoad_X4 : ∀ w ∈ wsX40, w ∈ wsX4_setLoad := by decide +kernel
theorem dX4_setHour_0 : decode cX4_setHour 0 = .ok (.aload_n 0, 1) := by decide +kernel
theorem dX4_setHour_1 : decode cX4_setHour 1 = .ok (.getfield 11, 3) := by decide +kernel
theorem dX4_setHour_4 : decode cX4_setHour 4 = .ok (.iconst 0, 1) := by decide +kernel
theorem dX4_setHour_5 : decode cX4_setHour 5 = .ok (.aload_n 1, 1) := by decide +kernel
theorem dX4_setHour_6 : decode cX4_setHour 6 = .ok (.iload_n 2, 1) := by decide +kernel
theorem dX4_setHour_7 : decode cX4_setHour 7 = .ok (.invokevirtual 15, 3) := by decide +kernel
theorem dX4_setHour_10 : decode cX4_setHour 10 = .ok (.iastore, 1) := by decide +kernel
theorem dX4_setHour_11 : decode cX4_setHour 11 = .ok (.aload_n 0, 1) := by decide +kernel
theorem dX4_setHour_12 : decode cX4_setHour 12 = .ok (.getfield 11, 3) := by decide +kernel
theorem dX4_setHour_15 : decode cX4_setHour 15 = .ok (.iconst 1, 1) := by decide +kernel
theorem dX4_setHour_16 : decode cX4_setHour 16 = .ok (.iload_n 2, 1) := by decide +kernel
theorem dX4_setHour_17 : decode cX4_setHour 17 = .ok (.bipush 24, 2) := by decide +kernel
theorem dX4_setHour_19 : decode cX4_setHour 19 = .ok (.irem, 1) := by decide +kernel
theorem dX4_setHour_20 : decode cX4_setHour 20 = .ok (.iastore, 1) := by decide +kernel
theorem dX4_setHour_21 : decode cX4_setHour 21 = .ok (.aload_n 0, 1) := by decide +kernel
theorem dX4_setHour_22 : decode cX4_setHour 22 = .ok (.getfield 11, 3) := by decide +kernel
theorem dX4_setHour_25 : decode cX4_setHour 25 = .ok (.iconst 2, 1) := by decide +kernel
theorem dX4_setHour_26 : decode cX4_setHour 26 = .ok (.iload_n 2, 1) := by decide +kernel
theorem dX4_setHour_27 : decode cX4_setHour 27 = .ok (.bipush 24, 2) := by decide +kernel
theorem dX4_setHour_29 : decode cX4_setHour 29 = .ok (.idiv, 1) := by decide +kernel
theorem dX4_setHour_30 : decode cX4_setHour 30 = .ok (.iastore, 1) := by decide +kernel
theorem dX4_setHour_31 : decode cX4_setHour 31 = .ok (.return_, 1) := by decide +kernel
theorem dX4_setNode_0 : decode cX4_setNode 0 = .ok (.aload_n 0, 1) := by decide +kernel
theorem dX4_setNode_1 : decode cX4_setNode 1 = .ok (.getfield 11, 3) := by decide +kernel
theorem dX4_setNode_4 : decode cX4_setNode 4 = .ok (.iconst 3, 1) := by decide +kernel
theorem dX4_setNode_5 : decode cX4_setNode 5 = .ok (.aload_n 1, 1) := by decide +kernel
theorem dX4_setNode_6 : decode cX4_setNode 6 = .ok (.getfield 21, 3) := by decide +kernel
theorem dX4_setNode_9 : decode cX4_setNode 9 = .ok (.iload_n 2, 1) := by decide +kernel
theorem dX4_setNode_10 : decode cX4_setNode 10 = .ok (.iconst 0, 1) := by decide +kernel
theorem dX4_setNode_11 : decode cX4_setNode 11 = .ok (.invokevirtual 25, 3) := by decide +kernel
theorem dX4_setNode_14 : decode cX4_setNode 14 = .ok (.iastore, 1) := by decide +kernel
theorem dX4_setNode_15 : decode cX4_setNode 15 = .ok (.aload_n 0, 1) := by decide +kernel
theorem dX4_setNode_16 : decode cX4_setNode 16 = .ok (.getfield 11, 3) := by decide +kernel
theorem dX4_setNode_19 : decode cX4_setNode 19 = .ok (.iconst 4, 1) := by decide +kernel
theorem dX4_setNode_20 : decode cX4_setNode 20 = .ok (.iconst 0, 1) := by decide +kernel
theorem dX4_setNode_21 : decode cX4_setNode 21 = .ok (.iastore, 1) := by decide +kernel
theorem dX4_setNode_22 : decode cX4_setNode 22 = .ok (.aload_n 0, 1) := by decide +kernel
theorem dX4_setNode_23 : decode cX4_setNode 23 = .ok (.getfield 11, 3) := by decide +kernel
theorem dX4_setNode_26 : decode cX4_setNode 26 = .ok (.iconst 5, 1) := by decide +kernel
theorem dX4_setNode_27 : decode cX4_setNode 27 = .ok (.aload_n 1, 1) := by decide +kernel
theorem dX4_setNode_28 : decode cX4_setNode 28 = .ok (.getfield 21, 3) := by decide +kernel
theorem dX4_setNode_31 : decode cX4_setNode 31 = .ok (.iload_n 2, 1) := by decide +kernel
theorem dX4_setNode_32 : decode cX4_setNode 32 = .ok (.iconst 2, 1) := by decide +kernel
theorem dX4_setNode_33 : decode cX4_setNode 33 = .ok (.invokevirtual 25, 3) := by decide +kernel
theorem dX4_setNode_36 : decode cX4_setNode 36 = .ok (.iastore, 1) := by decide +kernel
theorem dX4_setNode_37 : decode cX4_setNode 37 = .ok (.aload_n 0, 1) := by decide +kernel
theorem dX4_setNode_38 : decode cX4_setNode 38 = .ok (.getfield 11, 3) := by decide +kernel
theorem dX4_setNode_41 : decode cX4_setNode 41 = .ok (.bipush 6, 2) := by decide +kernel
theorem dX4_setNode_43 : decode cX4_setNode 43 = .ok (.iload_n 2, 1) := by decide +kernel
theorem dX4_setNode_44 : decode cX4_setNode 44 = .ok (.iastore, 1) := by decide +kernel
theorem dX4_setNode_45 : decode cX4_setNode 45 = .ok (.aload_n 0, 1) := by decide +kernel
theorem dX4_setNode_46 : decode cX4_setNode 46 = .ok (.getfield 11, 3) := by decide +kernel
theorem dX4_setNode_49 : decode cX4_setNode 49 = .ok (.bipush 10, 2) := by decide +kernel
theorem dX4_setNode_51 : decode cX4_setNode 51 = .ok (.iconst 0, 1) := by decide +kernel
theorem dX4_setNode_52 : decode cX4_setNode 52 = .ok (.iastore, 1) := by decide +kernel
theorem dX4_setNode_53 : decode cX4_setNode 53 = .ok (.return_, 1) := by decide +kernel
theorem dX4_setPass_0 : decode cX4_setPass 0 = .ok (.aload_n 1, 1) := by decide +kernel
theorem dX4_setPass_1 : decode cX4_setPass 1 = .ok (.iload_n 2, 1) := by decide +kernel
theorem dX4_setPass_2 : decode cX4_setPass 2 = .ok (.iload_n 3, 1) := by decide +kernel
theorem dX4_setPass_3 : decode cX4_setPass 3 = .ok (.invokevirtual 31, 3) := by decide +kernel
theorem dX4_setPass_6 : decode cX4_setPass 6 = .ok (.istore 4, 2) := by decide +kernel
theorem dX4_setPass_8 : decode cX4_setPass 8 = .ok (.aload_n 0, 1) := by decide +kernel
theorem dX4_setPass_9 : decode cX4_setPass 9 = .ok (.aload_n 1, 1) := by decide +kernel
theorem dX4_setPass_10 : decode cX4_setPass 10 = .ok (.getfield 21, 3) := by decide +kernel
theorem dX4_setPass_13 : decode cX4_setPass 13 = .ok (.iload 4, 2) := by decide +kernel
theorem dX4_setPass_15 : decode cX4_setPass 15 = .ok (.iconst 0, 1) := by decide +kernel
theorem dX4_setPass_16 : decode cX4_setPass 16 = .ok (.invokevirtual 25, 3) := by decide +kernel
theorem dX4_setPass_19 : decode cX4_setPass 19 = .ok (.putfield 34, 3) := by decide +kernel
theorem dX4_setPass_22 : decode cX4_setPass 22 = .ok (.aload_n 0, 1) := by decide +kernel
theorem dX4_setPass_23 : decode cX4_setPass 23 = .ok (.aload_n 1, 1) := by decide +kernel
theorem dX4_setPass_24 : decode cX4_setPass 24 = .ok (.getfield 21, 3) := by decide +kernel
theorem dX4_setPass_27 : decode cX4_setPass 27 = .ok (.iload_n 3, 1) := by decide +kernel
theorem dX4_setPass_28 : decode cX4_setPass 28 = .ok (.iconst 0, 1) := by decide +kernel
theorem dX4_setPass_29 : decode cX4_setPass 29 = .ok (.invokevirtual 25, 3) := by decide +kernel
theorem dX4_setPass_32 : decode cX4_setPass 32 = .ok (.putfield 38, 3) := by decide +kernel
theorem dX4_setPass_35 : decode cX4_setPass 35 = .ok (.aload_n 0, 1) := by decide +kernel
theorem dX4_setPass_36 : decode cX4_setPass 36 = .ok (.aload_n 1, 1) := by decide +kernel
theorem dX4_setPass_37 : decode cX4_setPass 37 = .ok (.getfield 41, 3) := by decide +kernel
theorem dX4_setPass_40 : decode cX4_setPass 40 = .ok (.iload_n 2, 1) := by decide +kernel
theorem dX4_setPass_41 : decode cX4_setPass 41 = .ok (.iconst 2, 1) := by decide +kernel
theorem dX4_setPass_42 : decode cX4_setPass 42 = .ok (.invokevirtual 25, 3) := by decide +kernel
theorem dX4_setPass_45 : decode cX4_setPass 45 = .ok (.putfield 44, 3) := by decide +kernel
theorem dX4_setPass_48 : decode cX4_setPass 48 = .ok (.aload_n 0, 1) := by decide +kernel
theorem dX4_setPass_49 : decode cX4_setPass 49 = .ok (.getfield 11, 3) := by decide +kernel
theorem dX4_setPass_52 : decode cX4_setPass 52 = .ok (.iconst 4, 1) := by decide +kernel
theorem dX4_setPass_53 : decode cX4_setPass 53 = .ok (.aload_n 1, 1) := by decide +kernel
theorem dX4_setPass_54 : decode cX4_setPass 54 = .ok (.getfield 41, 3) := by decide +kernel
theorem dX4_setPass_57 : decode cX4_setPass 57 = .ok (.iload_n 2, 1) := by decide +kernel
theorem dX4_setPass_58 : decode cX4_setPass 58 = .ok (.iconst 3, 1) := by decide +kernel
theorem dX4_setPass_59 : decode cX4_setPass 59 = .ok (.invokevirtual 25, 3) := by decide +kernel
theorem dX4_setPass_62 : decode cX4_setPass 62 = .ok (.iastore, 1) := by decide +kernel
theorem dX4_setPass_63 : decode cX4_setPass 63 = .ok (.aload_n 0, 1) := by decide +kernel
theorem dX4_setPass_64 : decode cX4_setPass 64 = .ok (.getfield 11, 3) := by decide +kernel
theorem dX4_setPass_67 : decode cX4_setPass 67 = .ok (.iconst 5, 1) := by decide +kernel
theorem dX4_setPass_68 : decode cX4_setPass 68 = .ok (.iconst 0, 1) := by decide +kernel
theorem dX4_setPass_69 : decode cX4_setPass 69 = .ok (.iastore, 1) := by decide +kernel
theorem dX4_setPass_70 : decode cX4_setPass 70 = .ok (.aload_n 0, 1) := by decide +kernel
theorem dX4_setPass_71 : decode cX4_setPass 71 = .ok (.getfield 11, 3) := by decide +kernel
theorem dX4_setPass_74 : decode cX4_setPass 74 = .ok (.bipush 6, 2) := by decide +kernel
theorem dX4_setPass_76 : decode cX4_setPass 76 = .ok (.bipush 12, 2) := by decide +kernel
theorem dX4_setPass_78 : decode cX4_setPass 78 = .ok (.iastore, 1) := by decide +kernel
theorem dX4_setPass_79 : decode cX4_setPass 79 = .ok (.return_, 1) := by decide +kernel
theorem dX4_setGone_0 : decode cX4_setGone 0 = .ok (.aload_n 0, 1) := by decide +kernel
theorem dX4_setGone_1 : decode cX4_setGone 1 = .ok (.getfield 34, 3) := by decide +kernel
theorem dX4_setGone_4 : decode cX4_setGone 4 = .ok (.aload_n 0, 1) := by decide +kernel
theorem dX4_setGone_5 : decode cX4_setGone 5 = .ok (.getfield 44, 3) := by decide +kernel
theorem dX4_setGone_8 : decode cX4_setGone 8 = .ok (.iload_n 1, 1) := by decide +kernel
theorem dX4_setGone_9 : decode cX4_setGone 9 = .ok (.isub, 1) := by decide +kernel
theorem dX4_setGone_10 : decode cX4_setGone 10 = .ok (.imul, 1) := by decide +kernel
theorem dX4_setGone_11 : decode cX4_setGone 11 = .ok (.aload_n 0, 1) := by decide +kernel
theorem dX4_setGone_12 : decode cX4_setGone 12 = .ok (.getfield 38, 3) := by decide +kernel
theorem dX4_setGone_15 : decode cX4_setGone 15 = .ok (.iload_n 1, 1) := by decide +kernel
theorem dX4_setGone_16 : decode cX4_setGone 16 = .ok (.imul, 1) := by decide +kernel
theorem dX4_setGone_17 : decode cX4_setGone 17 = .ok (.iadd, 1) := by decide +kernel
theorem dX4_setGone_18 : decode cX4_setGone 18 = .ok (.istore_n 2, 1) := by decide +kernel
theorem dX4_setGone_19 : decode cX4_setGone 19 = .ok (.aload_n 0, 1) := by decide +kernel
theorem dX4_setGone_20 : decode cX4_setGone 20 = .ok (.getfield 11, 3) := by decide +kernel
theorem dX4_setGone_23 : decode cX4_setGone 23 = .ok (.iconst 3, 1) := by decide +kernel
theorem dX4_setGone_24 : decode cX4_setGone 24 = .ok (.aload_n 0, 1) := by decide +kernel
theorem dX4_setGone_25 : decode cX4_setGone 25 = .ok (.getfield 44, 3) := by decide +kernel
theorem dX4_setGone_28 : decode cX4_setGone 28 = .ok (.ifCond .le 12, 3) := by decide +kernel
theorem dX4_setGone_40 : decode cX4_setGone 40 = .ok (.iconst 0, 1) := by decide +kernel
theorem dX4_setGone_41 : decode cX4_setGone 41 = .ok (.iastore, 1) := by decide +kernel
theorem dX4_setGone_42 : decode cX4_setGone 42 = .ok (.aload_n 0, 1) := by decide +kernel
theorem dX4_setGone_43 : decode cX4_setGone 43 = .ok (.getfield 11, 3) := by decide +kernel
theorem dX4_setGone_46 : decode cX4_setGone 46 = .ok (.bipush 10, 2) := by decide +kernel
theorem dX4_setGone_48 : decode cX4_setGone 48 = .ok (.iload_n 1, 1) := by decide +kernel
theorem dX4_setGone_49 : decode cX4_setGone 49 = .ok (.iastore, 1) := by decide +kernel
theorem dX4_setGone_31 : decode cX4_setGone 31 = .ok (.iload_n 2, 1) := by decide +kernel
theorem dX4_setGone_32 : decode cX4_setGone 32 = .ok (.aload_n 0, 1) := by decide +kernel
theorem dX4_setGone_33 : decode cX4_setGone 33 = .ok (.getfield 44, 3) := by decide +kernel
theorem dX4_setGone_36 : decode cX4_setGone 36 = .ok (.idiv, 1) := by decide +kernel
theorem dX4_setGone_37 : decode cX4_setGone 37 = .ok (.goto 4, 3) := by decide +kernel
theorem dX4_setGone_50 : decode cX4_setGone 50 = .ok (.return_, 1) := by decide +kernel
theorem dX4_setLoad_0 : decode cX4_setLoad 0 = .ok (.aload_n 0, 1) := by decide +kernel
theorem dX4_setLoad_1 : decode cX4_setLoad 1 = .ok (.getfield 11, 3) := by decide +kernel
theorem dX4_setLoad_4 : decode cX4_setLoad 4 = .ok (.bipush 7, 2) := by decide +kernel
theorem dX4_setLoad_6 : decode cX4_setLoad 6 = .ok (.iload_n 1, 1) := by decide +kernel
theorem dX4_setLoad_7 : decode cX4_setLoad 7 = .ok (.iastore, 1) := by decide +kernel
theorem dX4_setLoad_8 : decode cX4_setLoad 8 = .ok (.aload_n 0, 1) := by decide +kernel
theorem dX4_setLoad_9 : decode cX4_setLoad 9 = .ok (.getfield 11, 3) := by decide +kernel
theorem dX4_setLoad_12 : decode cX4_setLoad 12 = .ok (.bipush 8, 2) := by decide +kernel
theorem dX4_setLoad_14 : decode cX4_setLoad 14 = .ok (.iload_n 2, 1) := by decide +kernel
theorem dX4_setLoad_15 : decode cX4_setLoad 15 = .ok (.iastore, 1) := by decide +kernel
theorem dX4_setLoad_16 : decode cX4_setLoad 16 = .ok (.aload_n 0, 1) := by decide +kernel
theorem dX4_setLoad_17 : decode cX4_setLoad 17 = .ok (.getfield 11, 3) := by decide +kernel
theorem dX4_setLoad_20 : decode cX4_setLoad 20 = .ok (.bipush 9, 2) := by decide +kernel
theorem dX4_setLoad_22 : decode cX4_setLoad 22 = .ok (.iload_n 3, 1) := by decide +kernel
theorem dX4_setLoad_23 : decode cX4_setLoad 23 = .ok (.iastore, 1) := by decide +kernel
theorem dX4_setLoad_24 : decode cX4_setLoad 24 = .ok (.return_, 1) := by decide +kernel

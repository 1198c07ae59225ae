theorem kX8_fewestAt_1 {a : Array Value} {s : State} (hts : ∀ w ∈ wsX8_fewestAt, w.before a s = true) : (.fieldLink RX8 15 "SnowMules$Waits" "fewest" "[I" : Cond).before a s = true := hts _ (List.mem_of_getElem? (i := 1) (by decide +kernel))
theorem kX8_mostAt_1 {a : Array Value} {s : State} (hts : ∀ w ∈ wsX8_mostAt, w.before a s = true) : (.fieldLink RX8 18 "SnowMules$Waits" "most" "[I" : Cond).before a s = true := hts _ (List.mem_of_getElem? (i := 1) (by decide +kernel))
theorem kX8_note_1 {a : Array Value} {s : State} (hts : ∀ w ∈ wsX8_note, w.before a s = true) : (.fieldLink RX8 29 "SnowMules$Waits" "found" "I" : Cond).before a s = true := hts _ (List.mem_of_getElem? (i := 1) (by decide +kernel))
theorem kX8_note_2 {a : Array Value} {s : State} (hts : ∀ w ∈ wsX8_note, w.before a s = true) : (.fieldLink RX8 15 "SnowMules$Waits" "fewest" "[I" : Cond).before a s = true := hts _ (List.mem_of_getElem? (i := 2) (by decide +kernel))
theorem kX8_note_3 {a : Array Value} {s : State} (hts : ∀ w ∈ wsX8_note, w.before a s = true) : (.fieldLink RX8 9 "SnowMules$Waits" "waited" "[I" : Cond).before a s = true := hts _ (List.mem_of_getElem? (i := 3) (by decide +kernel))
theorem kX8_note_4 {a : Array Value} {s : State} (hts : ∀ w ∈ wsX8_note, w.before a s = true) : (.methodLink RX8 84 Lib.Math.min.name : Cond).before a s = true := hts _ (List.mem_of_getElem? (i := 4) (by decide +kernel))
theorem kX8_note_5 {a : Array Value} {s : State} (hts : ∀ w ∈ wsX8_note, w.before a s = true) : (.static Lib.Math.min.name : Cond).before a s = true := hts _ (List.mem_of_getElem? (i := 5) (by decide +kernel))
theorem kX8_note_6 {a : Array Value} {s : State} (hts : ∀ w ∈ wsX8_note, w.before a s = true) : (.initialized "java/lang/Math" : Cond).before a s = true := hts _ (List.mem_of_getElem? (i := 6) (by decide +kernel))
theorem kX8_note_7 {a : Array Value} {s : State} (hts : ∀ w ∈ wsX8_note, w.before a s = true) : (.code Lib.Math.min.name Lib.Math.min.code 2 (some .int) : Cond).before a s = true := hts _ (List.mem_of_getElem? (i := 7) (by decide +kernel))
theorem kX8_note_8 {a : Array Value} {s : State} (hts : ∀ w ∈ wsX8_note, w.before a s = true) : (.fieldLink RX8 18 "SnowMules$Waits" "most" "[I" : Cond).before a s = true := hts _ (List.mem_of_getElem? (i := 8) (by decide +kernel))
theorem kX8_note_9 {a : Array Value} {s : State} (hts : ∀ w ∈ wsX8_note, w.before a s = true) : (.methodLink RX8 36 Lib.Math.max.name : Cond).before a s = true := hts _ (List.mem_of_getElem? (i := 9) (by decide +kernel))
theorem kX8_note_10 {a : Array Value} {s : State} (hts : ∀ w ∈ wsX8_note, w.before a s = true) : (.static Lib.Math.max.name : Cond).before a s = true := hts _ (List.mem_of_getElem? (i := 10) (by decide +kernel))
theorem kX8_note_11 {a : Array Value} {s : State} (hts : ∀ w ∈ wsX8_note, w.before a s = true) : (.code Lib.Math.max.name Lib.Math.max.code 2 (some .int) : Cond).before a s = true := hts _ (List.mem_of_getElem? (i := 11) (by decide +kernel))
theorem kX8_spread_1 {a : Array Value} {s : State} (hts : ∀ w ∈ wsX8_spread, w.before a s = true) : (.fieldLink RX8 21 "SnowMules$Waits" "world" "LSnowMules$World;" : Cond).before a s = true := hts _ (List.mem_of_getElem? (i := 1) (by decide +kernel))
theorem kX8_spread_2 {a : Array Value} {s : State} (hts : ∀ w ∈ wsX8_spread, w.before a s = true) : (.fieldLink RX8 56 "SnowMules$World" "way" "LSnowMules$Table;" : Cond).before a s = true := hts _ (List.mem_of_getElem? (i := 2) (by decide +kernel))
theorem kX8_spread_3 {a : Array Value} {s : State} (hts : ∀ w ∈ wsX8_spread, w.before a s = true) : (.fieldLink RX8 60 "SnowMules$Table" "size" "I" : Cond).before a s = true := hts _ (List.mem_of_getElem? (i := 3) (by decide +kernel))
theorem kX8_spread_4 {a : Array Value} {s : State} (hts : ∀ w ∈ wsX8_spread, w.before a s = true) : (.fieldLink RX8 25 "SnowMules$Waits" "trip" "LSnowMules$Trip;" : Cond).before a s = true := hts _ (List.mem_of_getElem? (i := 4) (by decide +kernel))
theorem kX8_spread_5 {a : Array Value} {s : State} (hts : ∀ w ∈ wsX8_spread, w.before a s = true) : (.fieldLink RX8 65 "SnowMules$Trip" "drops" "I" : Cond).before a s = true := hts _ (List.mem_of_getElem? (i := 5) (by decide +kernel))
theorem kX8_spread_6 {a : Array Value} {s : State} (hts : ∀ w ∈ wsX8_spread, w.before a s = true) : (.fieldLink RX8 33 "SnowMules$Waits" "due" "I" : Cond).before a s = true := hts _ (List.mem_of_getElem? (i := 6) (by decide +kernel))
theorem kX8_spread_7 {a : Array Value} {s : State} (hts : ∀ w ∈ wsX8_spread, w.before a s = true) : (.fieldLink RX8 75 "SnowMules$Trip" "hour" "I" : Cond).before a s = true := hts _ (List.mem_of_getElem? (i := 7) (by decide +kernel))
theorem kX8_spread_8 {a : Array Value} {s : State} (hts : ∀ w ∈ wsX8_spread, w.before a s = true) : (.fieldLink RX8 9 "SnowMules$Waits" "waited" "[I" : Cond).before a s = true := hts _ (List.mem_of_getElem? (i := 8) (by decide +kernel))
theorem kX8_find_1 {a : Array Value} {s : State} (hts : ∀ w ∈ wsX8_find, w.before a s = true) : (.fieldLink RX8 29 "SnowMules$Waits" "found" "I" : Cond).before a s = true := hts _ (List.mem_of_getElem? (i := 1) (by decide +kernel))
theorem kX8_find_2 {a : Array Value} {s : State} (hts : ∀ w ∈ wsX8_find, w.before a s = true) : (.fieldLink RX8 33 "SnowMules$Waits" "due" "I" : Cond).before a s = true := hts _ (List.mem_of_getElem? (i := 2) (by decide +kernel))
theorem kX8_find_3 {a : Array Value} {s : State} (hts : ∀ w ∈ wsX8_find, w.before a s = true) : (.fieldLink RX8 25 "SnowMules$Waits" "trip" "LSnowMules$Trip;" : Cond).before a s = true := hts _ (List.mem_of_getElem? (i := 3) (by decide +kernel))
theorem kX8_find_4 {a : Array Value} {s : State} (hts : ∀ w ∈ wsX8_find, w.before a s = true) : (.methodLink RX8 36 Lib.Math.max.name : Cond).before a s = true := hts _ (List.mem_of_getElem? (i := 4) (by decide +kernel))
theorem kX8_find_5 {a : Array Value} {s : State} (hts : ∀ w ∈ wsX8_find, w.before a s = true) : (.static Lib.Math.max.name : Cond).before a s = true := hts _ (List.mem_of_getElem? (i := 5) (by decide +kernel))
theorem kX8_find_6 {a : Array Value} {s : State} (hts : ∀ w ∈ wsX8_find, w.before a s = true) : (.initialized "java/lang/Math" : Cond).before a s = true := hts _ (List.mem_of_getElem? (i := 6) (by decide +kernel))
theorem kX8_find_7 {a : Array Value} {s : State} (hts : ∀ w ∈ wsX8_find, w.before a s = true) : (.code Lib.Math.max.name Lib.Math.max.code 2 (some .int) : Cond).before a s = true := hts _ (List.mem_of_getElem? (i := 7) (by decide +kernel))
theorem kX8_find_8 {a : Array Value} {s : State} (hts : ∀ w ∈ wsX8_find, w.before a s = true) : (.fieldLink RX8 42 "SnowMules$Trip" "needed" "I" : Cond).before a s = true := hts _ (List.mem_of_getElem? (i := 8) (by decide +kernel))
theorem kX8_find_9 {a : Array Value} {s : State} (hts : ∀ w ∈ wsX8_find, w.before a s = true) : (.fieldLink RX8 15 "SnowMules$Waits" "fewest" "[I" : Cond).before a s = true := hts _ (List.mem_of_getElem? (i := 9) (by decide +kernel))
theorem kX8_find_10 {a : Array Value} {s : State} (hts : ∀ w ∈ wsX8_find, w.before a s = true) : (.fieldLink RX8 18 "SnowMules$Waits" "most" "[I" : Cond).before a s = true := hts _ (List.mem_of_getElem? (i := 10) (by decide +kernel))
theorem kX8_find_11 {a : Array Value} {s : State} (hts : ∀ w ∈ wsX8_find, w.before a s = true) : (.fieldLink RX8 21 "SnowMules$Waits" "world" "LSnowMules$World;" : Cond).before a s = true := hts _ (List.mem_of_getElem? (i := 11) (by decide +kernel))
theorem kX8_find_12 {a : Array Value} {s : State} (hts : ∀ w ∈ wsX8_find, w.before a s = true) : (.fieldLink RX8 47 "SnowMules$World" "wayStart" "I" : Cond).before a s = true := hts _ (List.mem_of_getElem? (i := 12) (by decide +kernel))
theorem iX8_fewestAt_X8 : ∀ w ∈ wsX80, w ∈ wsX8_fewestAt := by decide +kernel
theorem iX8_mostAt_X8 : ∀ w ∈ wsX80, w ∈ wsX8_mostAt := by decide +kernel
theorem iX8_note_X8 : ∀ w ∈ wsX80, w ∈ wsX8_note := by decide +kernel
theorem iX8_spread_X8 : ∀ w ∈ wsX80, w ∈ wsX8_spread := by decide +kernel
theorem iX8_spread_X9 : ∀ w ∈ wsX90, w ∈ wsX8_spread := by decide +kernel
theorem iX8_spread_X6 : ∀ w ∈ wsX60, w ∈ wsX8_spread := by decide +kernel
theorem iX8_spread_X7 : ∀ w ∈ wsX70, w ∈ wsX8_spread := by decide +kernel
theorem iX8_find_X8 : ∀ w ∈ wsX80, w ∈ wsX8_find := by decide +kernel
theorem iX8_find_X7 : ∀ w ∈ wsX70, w ∈ wsX8_find := by decide +kernel
theorem iX8_find_X9 : ∀ w ∈ wsX90, w ∈ wsX8_find := by decide +kernel
theorem dX8_fewestAt_0 : decode cX8_fewestAt 0 = .ok (.iload_n 1, 1) := by decide +kernel
theorem dX8_fewestAt_1 : decode cX8_fewestAt 1 = .ok (.ifCond .lt 18, 3) := by decide +kernel
theorem dX8_fewestAt_19 : decode cX8_fewestAt 19 = .ok (.iconst (-1), 1) := by decide +kernel
theorem dX8_fewestAt_20 : decode cX8_fewestAt 20 = .ok (.ireturn, 1) := by decide +kernel
theorem dX8_fewestAt_4 : decode cX8_fewestAt 4 = .ok (.iload_n 1, 1) := by decide +kernel
theorem dX8_fewestAt_5 : decode cX8_fewestAt 5 = .ok (.bipush 6, 2) := by decide +kernel
theorem dX8_fewestAt_7 : decode cX8_fewestAt 7 = .ok (.if_icmp .ge 12, 3) := by decide +kernel
theorem dX8_fewestAt_10 : decode cX8_fewestAt 10 = .ok (.aload_n 0, 1) := by decide +kernel
theorem dX8_fewestAt_11 : decode cX8_fewestAt 11 = .ok (.getfield 15, 3) := by decide +kernel
theorem dX8_fewestAt_14 : decode cX8_fewestAt 14 = .ok (.iload_n 1, 1) := by decide +kernel
theorem dX8_fewestAt_15 : decode cX8_fewestAt 15 = .ok (.iaload, 1) := by decide +kernel
theorem dX8_fewestAt_16 : decode cX8_fewestAt 16 = .ok (.goto 4, 3) := by decide +kernel
theorem dX8_mostAt_0 : decode cX8_mostAt 0 = .ok (.iload_n 1, 1) := by decide +kernel
theorem dX8_mostAt_1 : decode cX8_mostAt 1 = .ok (.ifCond .lt 18, 3) := by decide +kernel
theorem dX8_mostAt_19 : decode cX8_mostAt 19 = .ok (.iconst (-1), 1) := by decide +kernel
theorem dX8_mostAt_20 : decode cX8_mostAt 20 = .ok (.ireturn, 1) := by decide +kernel
theorem dX8_mostAt_4 : decode cX8_mostAt 4 = .ok (.iload_n 1, 1) := by decide +kernel
theorem dX8_mostAt_5 : decode cX8_mostAt 5 = .ok (.bipush 6, 2) := by decide +kernel
theorem dX8_mostAt_7 : decode cX8_mostAt 7 = .ok (.if_icmp .ge 12, 3) := by decide +kernel
theorem dX8_mostAt_10 : decode cX8_mostAt 10 = .ok (.aload_n 0, 1) := by decide +kernel
theorem dX8_mostAt_11 : decode cX8_mostAt 11 = .ok (.getfield 18, 3) := by decide +kernel
theorem dX8_mostAt_14 : decode cX8_mostAt 14 = .ok (.iload_n 1, 1) := by decide +kernel
theorem dX8_mostAt_15 : decode cX8_mostAt 15 = .ok (.iaload, 1) := by decide +kernel
theorem dX8_mostAt_16 : decode cX8_mostAt 16 = .ok (.goto 4, 3) := by decide +kernel
theorem dX8_note_0 : decode cX8_note 0 = .ok (.aload_n 0, 1) := by decide +kernel
theorem dX8_note_1 : decode cX8_note 1 = .ok (.dup, 1) := by decide +kernel
theorem dX8_note_2 : decode cX8_note 2 = .ok (.getfield 29, 3) := by decide +kernel
theorem dX8_note_5 : decode cX8_note 5 = .ok (.iconst 1, 1) := by decide +kernel
theorem dX8_note_6 : decode cX8_note 6 = .ok (.iadd, 1) := by decide +kernel
theorem dX8_note_7 : decode cX8_note 7 = .ok (.putfield 29, 3) := by decide +kernel
theorem dX8_note_10 : decode cX8_note 10 = .ok (.iconst 0, 1) := by decide +kernel
theorem dX8_note_11 : decode cX8_note 11 = .ok (.istore_n 2, 1) := by decide +kernel
theorem dX8_note_12 : decode cX8_note 12 = .ok (.iload_n 2, 1) := by decide +kernel
theorem dX8_note_13 : decode cX8_note 13 = .ok (.iload_n 1, 1) := by decide +kernel
theorem dX8_note_14 : decode cX8_note 14 = .ok (.if_icmp .ge 57, 3) := by decide +kernel
theorem dX8_note_17 : decode cX8_note 17 = .ok (.iload_n 2, 1) := by decide +kernel
theorem dX8_note_18 : decode cX8_note 18 = .ok (.bipush 6, 2) := by decide +kernel
theorem dX8_note_20 : decode cX8_note 20 = .ok (.if_icmp .ge 51, 3) := by decide +kernel
theorem dX8_note_23 : decode cX8_note 23 = .ok (.aload_n 0, 1) := by decide +kernel
theorem dX8_note_24 : decode cX8_note 24 = .ok (.getfield 15, 3) := by decide +kernel
theorem dX8_note_27 : decode cX8_note 27 = .ok (.iload_n 2, 1) := by decide +kernel
theorem dX8_note_28 : decode cX8_note 28 = .ok (.aload_n 0, 1) := by decide +kernel
theorem dX8_note_29 : decode cX8_note 29 = .ok (.getfield 15, 3) := by decide +kernel
theorem dX8_note_32 : decode cX8_note 32 = .ok (.iload_n 2, 1) := by decide +kernel
theorem dX8_note_33 : decode cX8_note 33 = .ok (.iaload, 1) := by decide +kernel
theorem dX8_note_34 : decode cX8_note 34 = .ok (.aload_n 0, 1) := by decide +kernel
theorem dX8_note_35 : decode cX8_note 35 = .ok (.getfield 9, 3) := by decide +kernel
theorem dX8_note_38 : decode cX8_note 38 = .ok (.iload_n 2, 1) := by decide +kernel
theorem dX8_note_39 : decode cX8_note 39 = .ok (.iaload, 1) := by decide +kernel
theorem dX8_note_40 : decode cX8_note 40 = .ok (.invokestatic 84, 3) := by decide +kernel
theorem dX8_note_43 : decode cX8_note 43 = .ok (.iastore, 1) := by decide +kernel
theorem dX8_note_44 : decode cX8_note 44 = .ok (.aload_n 0, 1) := by decide +kernel
theorem dX8_note_45 : decode cX8_note 45 = .ok (.getfield 18, 3) := by decide +kernel
theorem dX8_note_48 : decode cX8_note 48 = .ok (.iload_n 2, 1) := by decide +kernel
theorem dX8_note_49 : decode cX8_note 49 = .ok (.aload_n 0, 1) := by decide +kernel
theorem dX8_note_50 : decode cX8_note 50 = .ok (.getfield 18, 3) := by decide +kernel
theorem dX8_note_53 : decode cX8_note 53 = .ok (.iload_n 2, 1) := by decide +kernel
theorem dX8_note_54 : decode cX8_note 54 = .ok (.iaload, 1) := by decide +kernel
theorem dX8_note_55 : decode cX8_note 55 = .ok (.aload_n 0, 1) := by decide +kernel
theorem dX8_note_56 : decode cX8_note 56 = .ok (.getfield 9, 3) := by decide +kernel
theorem dX8_note_59 : decode cX8_note 59 = .ok (.iload_n 2, 1) := by decide +kernel
theorem dX8_note_60 : decode cX8_note 60 = .ok (.iaload, 1) := by decide +kernel
theorem dX8_note_61 : decode cX8_note 61 = .ok (.invokestatic 36, 3) := by decide +kernel
theorem dX8_note_64 : decode cX8_note 64 = .ok (.iastore, 1) := by decide +kernel
theorem dX8_note_65 : decode cX8_note 65 = .ok (.iinc 2 1, 3) := by decide +kernel
theorem dX8_note_68 : decode cX8_note 68 = .ok (.goto (-56), 3) := by decide +kernel
theorem dX8_note_71 : decode cX8_note 71 = .ok (.return_, 1) := by decide +kernel
theorem dX8_spread_0 : decode cX8_spread 0 = .ok (.aload_n 0, 1) := by decide +kernel
theorem dX8_spread_1 : decode cX8_spread 1 = .ok (.getfield 21, 3) := by decide +kernel
theorem dX8_spread_4 : decode cX8_spread 4 = .ok (.getfield 56, 3) := by decide +kernel
theorem dX8_spread_7 : decode cX8_spread 7 = .ok (.getfield 60, 3) := by decide +kernel
theorem dX8_spread_10 : decode cX8_spread 10 = .ok (.istore 4, 2) := by decide +kernel
theorem dX8_spread_12 : decode cX8_spread 12 = .ok (.aload_n 0, 1) := by decide +kernel
theorem dX8_spread_13 : decode cX8_spread 13 = .ok (.getfield 25, 3) := by decide +kernel
theorem dX8_spread_16 : decode cX8_spread 16 = .ok (.getfield 65, 3) := by decide +kernel
theorem dX8_spread_19 : decode cX8_spread 19 = .ok (.aload_n 0, 1) := by decide +kernel
theorem dX8_spread_20 : decode cX8_spread 20 = .ok (.getfield 33, 3) := by decide +kernel
theorem dX8_spread_23 : decode cX8_spread 23 = .ok (.if_icmp .ge 4, 3) := by decide +kernel
theorem dX8_spread_27 : decode cX8_spread 27 = .ok (.iload_n 1, 1) := by decide +kernel
theorem dX8_spread_28 : decode cX8_spread 28 = .ok (.iload 4, 2) := by decide +kernel
theorem dX8_spread_30 : decode cX8_spread 30 = .ok (.if_icmp .ge 9, 3) := by decide +kernel
theorem dX8_spread_39 : decode cX8_spread 39 = .ok (.iload_n 3, 1) := by decide +kernel
theorem dX8_spread_40 : decode cX8_spread 40 = .ok (.ifCond .ne 23, 3) := by decide +kernel
theorem dX8_spread_63 : decode cX8_spread 63 = .ok (.return_, 1) := by decide +kernel
theorem dX8_spread_43 : decode cX8_spread 43 = .ok (.aload_n 0, 1) := by decide +kernel
theorem dX8_spread_44 : decode cX8_spread 44 = .ok (.getfield 25, 3) := by decide +kernel
theorem dX8_spread_47 : decode cX8_spread 47 = .ok (.getfield 65, 3) := by decide +kernel
theorem dX8_spread_50 : decode cX8_spread 50 = .ok (.aload_n 0, 1) := by decide +kernel
theorem dX8_spread_51 : decode cX8_spread 51 = .ok (.getfield 33, 3) := by decide +kernel
theorem dX8_spread_54 : decode cX8_spread 54 = .ok (.if_icmp .ne 9, 3) := by decide +kernel
theorem dX8_spread_57 : decode cX8_spread 57 = .ok (.aload_n 0, 1) := by decide +kernel
theorem dX8_spread_58 : decode cX8_spread 58 = .ok (.iload 4, 2) := by decide +kernel
theorem dX8_spread_60 : decode cX8_spread 60 = .ok (.invokevirtual 68, 3) := by decide +kernel
theorem dX8_spread_33 : decode cX8_spread 33 = .ok (.iload_n 1, 1) := by decide +kernel
theorem dX8_spread_34 : decode cX8_spread 34 = .ok (.bipush 6, 2) := by decide +kernel
theorem dX8_spread_36 : decode cX8_spread 36 = .ok (.if_icmp .lt 28, 3) := by decide +kernel
theorem dX8_spread_26 : decode cX8_spread 26 = .ok (.return_, 1) := by decide +kernel
theorem dX8_spread_64 : decode cX8_spread 64 = .ok (.aload_n 0, 1) := by decide +kernel
theorem dX8_spread_65 : decode cX8_spread 65 = .ok (.getfield 21, 3) := by decide +kernel
theorem dX8_spread_68 : decode cX8_spread 68 = .ok (.getfield 56, 3) := by decide +kernel
theorem dX8_spread_71 : decode cX8_spread 71 = .ok (.iload_n 1, 1) := by decide +kernel
theorem dX8_spread_72 : decode cX8_spread 72 = .ok (.iconst 0, 1) := by decide +kernel
theorem dX8_spread_73 : decode cX8_spread 73 = .ok (.invokevirtual 72, 3) := by decide +kernel
theorem dX8_spread_76 : decode cX8_spread 76 = .ok (.istore 5, 2) := by decide +kernel
theorem dX8_spread_78 : decode cX8_spread 78 = .ok (.iconst 0, 1) := by decide +kernel
theorem dX8_spread_79 : decode cX8_spread 79 = .ok (.istore 6, 2) := by decide +kernel
theorem dX8_spread_81 : decode cX8_spread 81 = .ok (.iload 6, 2) := by decide +kernel
theorem dX8_spread_83 : decode cX8_spread 83 = .ok (.iload_n 3, 1) := by decide +kernel
theorem dX8_spread_84 : decode cX8_spread 84 = .ok (.if_icmp .gt 100, 3) := by decide +kernel
theorem dX8_spread_87 : decode cX8_spread 87 = .ok (.iload 6, 2) := by decide +kernel
theorem dX8_spread_89 : decode cX8_spread 89 = .ok (.iload_n 3, 1) := by decide +kernel
theorem dX8_spread_90 : decode cX8_spread 90 = .ok (.if_icmp .eq 11, 3) := by decide +kernel
theorem dX8_spread_101 : decode cX8_spread 101 = .ok (.aload_n 0, 1) := by decide +kernel
theorem dX8_spread_102 : decode cX8_spread 102 = .ok (.getfield 25, 3) := by decide +kernel
theorem dX8_spread_105 : decode cX8_spread 105 = .ok (.getfield 65, 3) := by decide +kernel
theorem dX8_spread_108 : decode cX8_spread 108 = .ok (.istore 7, 2) := by decide +kernel
theorem dX8_spread_110 : decode cX8_spread 110 = .ok (.aload_n 0, 1) := by decide +kernel
theorem dX8_spread_111 : decode cX8_spread 111 = .ok (.getfield 25, 3) := by decide +kernel
theorem dX8_spread_114 : decode cX8_spread 114 = .ok (.getfield 75, 3) := by decide +kernel
theorem dX8_spread_117 : decode cX8_spread 117 = .ok (.istore 8, 2) := by decide +kernel
theorem dX8_spread_119 : decode cX8_spread 119 = .ok (.aload_n 0, 1) := by decide +kernel
theorem dX8_spread_120 : decode cX8_spread 120 = .ok (.getfield 9, 3) := by decide +kernel
theorem dX8_spread_123 : decode cX8_spread 123 = .ok (.iload_n 1, 1) := by decide +kernel
theorem dX8_spread_124 : decode cX8_spread 124 = .ok (.iload 6, 2) := by decide +kernel
theorem dX8_spread_126 : decode cX8_spread 126 = .ok (.iastore, 1) := by decide +kernel
theorem dX8_spread_127 : decode cX8_spread 127 = .ok (.aload_n 0, 1) := by decide +kernel
theorem dX8_spread_128 : decode cX8_spread 128 = .ok (.getfield 25, 3) := by decide +kernel
theorem dX8_spread_131 : decode cX8_spread 131 = .ok (.iload 5, 2) := by decide +kernel
theorem dX8_spread_133 : decode cX8_spread 133 = .ok (.iload_n 2, 1) := by decide +kernel
theorem dX8_spread_134 : decode cX8_spread 134 = .ok (.invokevirtual 78, 3) := by decide +kernel
theorem dX8_spread_137 : decode cX8_spread 137 = .ok (.istore 9, 2) := by decide +kernel
theorem dX8_spread_139 : decode cX8_spread 139 = .ok (.aload_n 0, 1) := by decide +kernel
theorem dX8_spread_140 : decode cX8_spread 140 = .ok (.iload_n 1, 1) := by decide +kernel
theorem dX8_spread_141 : decode cX8_spread 141 = .ok (.iconst 1, 1) := by decide +kernel
theorem dX8_spread_142 : decode cX8_spread 142 = .ok (.iadd, 1) := by decide +kernel
theorem dX8_spread_143 : decode cX8_spread 143 = .ok (.iload 9, 2) := by decide +kernel
theorem dX8_spread_145 : decode cX8_spread 145 = .ok (.iload_n 3, 1) := by decide +kernel
theorem dX8_spread_146 : decode cX8_spread 146 = .ok (.iload 6, 2) := by decide +kernel
theorem dX8_spread_148 : decode cX8_spread 148 = .ok (.isub, 1) := by decide +kernel
theorem dX8_spread_149 : decode cX8_spread 149 = .ok (.invokevirtual 52, 3) := by decide +kernel
theorem dX8_spread_152 : decode cX8_spread 152 = .ok (.aload_n 0, 1) := by decide +kernel
theorem dX8_spread_153 : decode cX8_spread 153 = .ok (.getfield 25, 3) := by decide +kernel
theorem dX8_spread_156 : decode cX8_spread 156 = .ok (.iload 7, 2) := by decide +kernel
theorem dX8_spread_158 : decode cX8_spread 158 = .ok (.putfield 65, 3) := by decide +kernel
theorem dX8_spread_161 : decode cX8_spread 161 = .ok (.aload_n 0, 1) := by decide +kernel
theorem dX8_spread_162 : decode cX8_spread 162 = .ok (.getfield 25, 3) := by decide +kernel
theorem dX8_spread_165 : decode cX8_spread 165 = .ok (.iload 8, 2) := by decide +kernel
theorem dX8_spread_167 : decode cX8_spread 167 = .ok (.putfield 75, 3) := by decide +kernel
theorem dX8_spread_170 : decode cX8_spread 170 = .ok (.aload_n 0, 1) := by decide +kernel
theorem dX8_spread_171 : decode cX8_spread 171 = .ok (.getfield 25, 3) := by decide +kernel
theorem dX8_spread_174 : decode cX8_spread 174 = .ok (.iload_n 2, 1) := by decide +kernel
theorem dX8_spread_175 : decode cX8_spread 175 = .ok (.invokevirtual 81, 3) := by decide +kernel
theorem dX8_spread_178 : decode cX8_spread 178 = .ok (.iinc 6 1, 3) := by decide +kernel
theorem dX8_spread_181 : decode cX8_spread 181 = .ok (.goto (-100), 3) := by decide +kernel
theorem dX8_spread_93 : decode cX8_spread 93 = .ok (.iload_n 1, 1) := by decide +kernel
theorem dX8_spread_94 : decode cX8_spread 94 = .ok (.iload 4, 2) := by decide +kernel
theorem dX8_spread_96 : decode cX8_spread 96 = .ok (.iconst 1, 1) := by decide +kernel
theorem dX8_spread_97 : decode cX8_spread 97 = .ok (.isub, 1) := by decide +kernel
theorem dX8_spread_98 : decode cX8_spread 98 = .ok (.if_icmp .ge 72, 3) := by decide +kernel
theorem dX8_spread_184 : decode cX8_spread 184 = .ok (.return_, 1) := by decide +kernel
theorem dX8_find_0 : decode cX8_find 0 = .ok (.aload_n 0, 1) := by decide +kernel
theorem dX8_find_1 : decode cX8_find 1 = .ok (.iconst 0, 1) := by decide +kernel
theorem dX8_find_2 : decode cX8_find 2 = .ok (.putfield 29, 3) := by decide +kernel
theorem dX8_find_5 : decode cX8_find 5 = .ok (.aload_n 0, 1) := by decide +kernel
theorem dX8_find_6 : decode cX8_find 6 = .ok (.iload_n 2, 1) := by decide +kernel
theorem dX8_find_7 : decode cX8_find 7 = .ok (.putfield 33, 3) := by decide +kernel
theorem dX8_find_10 : decode cX8_find 10 = .ok (.aload_n 0, 1) := by decide +kernel
theorem dX8_find_11 : decode cX8_find 11 = .ok (.getfield 25, 3) := by decide +kernel
theorem dX8_find_14 : decode cX8_find 14 = .ok (.iconst 1, 1) := by decide +kernel
theorem dX8_find_15 : decode cX8_find 15 = .ok (.iload_n 2, 1) := by decide +kernel
theorem dX8_find_16 : decode cX8_find 16 = .ok (.invokestatic 36, 3) := by decide +kernel
theorem dX8_find_19 : decode cX8_find 19 = .ok (.putfield 42, 3) := by decide +kernel
theorem dX8_find_22 : decode cX8_find 22 = .ok (.iconst 0, 1) := by decide +kernel
theorem dX8_find_23 : decode cX8_find 23 = .ok (.istore_n 3, 1) := by decide +kernel
theorem dX8_find_24 : decode cX8_find 24 = .ok (.iload_n 3, 1) := by decide +kernel
theorem dX8_find_25 : decode cX8_find 25 = .ok (.bipush 6, 2) := by decide +kernel
theorem dX8_find_27 : decode cX8_find 27 = .ok (.if_icmp .ge 24, 3) := by decide +kernel
theorem dX8_find_30 : decode cX8_find 30 = .ok (.aload_n 0, 1) := by decide +kernel
theorem dX8_find_31 : decode cX8_find 31 = .ok (.getfield 15, 3) := by decide +kernel
theorem dX8_find_34 : decode cX8_find 34 = .ok (.iload_n 3, 1) := by decide +kernel
theorem dX8_find_35 : decode cX8_find 35 = .ok (.bipush 12, 2) := by decide +kernel
theorem dX8_find_37 : decode cX8_find 37 = .ok (.iastore, 1) := by decide +kernel
theorem dX8_find_38 : decode cX8_find 38 = .ok (.aload_n 0, 1) := by decide +kernel
theorem dX8_find_39 : decode cX8_find 39 = .ok (.getfield 18, 3) := by decide +kernel
theorem dX8_find_42 : decode cX8_find 42 = .ok (.iload_n 3, 1) := by decide +kernel
theorem dX8_find_43 : decode cX8_find 43 = .ok (.iconst 0, 1) := by decide +kernel
theorem dX8_find_44 : decode cX8_find 44 = .ok (.iastore, 1) := by decide +kernel
theorem dX8_find_45 : decode cX8_find 45 = .ok (.iinc 3 1, 3) := by decide +kernel
theorem dX8_find_48 : decode cX8_find 48 = .ok (.goto (-24), 3) := by decide +kernel
theorem dX8_find_51 : decode cX8_find 51 = .ok (.aload_n 0, 1) := by decide +kernel
theorem dX8_find_52 : decode cX8_find 52 = .ok (.iconst 0, 1) := by decide +kernel
theorem dX8_find_53 : decode cX8_find 53 = .ok (.aload_n 0, 1) := by decide +kernel
theorem dX8_find_54 : decode cX8_find 54 = .ok (.getfield 21, 3) := by decide +kernel
theorem dX8_find_57 : decode cX8_find 57 = .ok (.getfield 47, 3) := by decide +kernel
theorem dX8_find_60 : decode cX8_find 60 = .ok (.iload_n 1, 1) := by decide +kernel
theorem dX8_find_61 : decode cX8_find 61 = .ok (.invokevirtual 52, 3) := by decide +kernel
theorem dX8_find_64 : decode cX8_find 64 = .ok (.return_, 1) := by decide +kernel

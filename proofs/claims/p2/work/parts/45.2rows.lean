theorem fsX1 : ∀ j, j < 17 → defaultValue (tyX1 j) = vp_V [.int 0, .int 0, .null, .null, .null, .null, .null, .int 0, .null, .null, .int 0, .null, .null, .null, .null, .int 0, .null] j := by decide +kernel
theorem kX10_law_1 {a : Array Value} {s : State} (hts : ∀ w ∈ wsX10_law, w.before a s = true) : (.fieldLink RX10 128 "SnowMules" "lawCount" "I" : Cond).before a s = true := hts _ (List.mem_of_getElem? (i := 1) (by decide +kernel))
theorem kX10_law_2 {a : Array Value} {s : State} (hts : ∀ w ∈ wsX10_law, w.before a s = true) : (.fieldLink RX10 29 "SnowMules" "laws" "[LSnowMules$Law;" : Cond).before a s = true := hts _ (List.mem_of_getElem? (i := 2) (by decide +kernel))
theorem kX10_law_6 {a : Array Value} {s : State} (hts : ∀ w ∈ wsX10_law, w.before a s = true) : (.fieldLink RX10 36 "SnowMules" "reader" "LSnowMules$LawReader;" : Cond).before a s = true := hts _ (List.mem_of_getElem? (i := 6) (by decide +kernel))
theorem kX10_law_7 {a : Array Value} {s : State} (hts : ∀ w ∈ wsX10_law, w.before a s = true) : (.fieldLink RX10 23 "SnowMules" "tape" "[I" : Cond).before a s = true := hts _ (List.mem_of_getElem? (i := 7) (by decide +kernel))
theorem kX10_law_8 {a : Array Value} {s : State} (hts : ∀ w ∈ wsX10_law, w.before a s = true) : (.fieldLink RX10 121 "SnowMules" "tapeLength" "I" : Cond).before a s = true := hts _ (List.mem_of_getElem? (i := 8) (by decide +kernel))
theorem kX10_law_3 {a : Array Value} {s : State} (hts : ∀ w ∈ wsX10_law, w.before a s = true) : (.classLink RX10 27 RX1 : Cond).before a s = true := hts _ (List.mem_of_getElem? (i := 3) (by decide +kernel))
theorem kX10_law_4 {a : Array Value} {s : State} (hts : ∀ w ∈ wsX10_law, w.before a s = true) : (.instantiable RX1 17 : Cond).before a s = true := hts _ (List.mem_of_getElem? (i := 4) (by decide +kernel))
theorem kX10_law_5 {a : Array Value} {s : State} (hts : ∀ w ∈ wsX10_law, w.before a s = true) : (.initialized RX1 : Cond).before a s = true := hts _ (List.mem_of_getElem? (i := 5) (by decide +kernel))
theorem kX10_law_9 {a : Array Value} {s : State} (hts : ∀ w ∈ wsX10_law, w.before a s = true) : (.instanceMethod yX1_init : Cond).before a s = true := hts _ (List.mem_of_getElem? (i := 9) (by decide +kernel))
theorem iX10_law_X10 : ∀ w ∈ wsX100, w ∈ wsX10_law := by decide +kernel
theorem iX10_law_X1 : ∀ w ∈ wsX10, w ∈ wsX10_law := by decide +kernel
theorem dX10_law_0 : decode cX10_law 0 = .ok (.aload_n 0, 1) := by decide +kernel
theorem dX10_law_1 : decode cX10_law 1 = .ok (.getfield 128, 3) := by decide +kernel
theorem dX10_law_4 : decode cX10_law 4 = .ok (.bipush 6, 2) := by decide +kernel
theorem dX10_law_6 : decode cX10_law 6 = .ok (.if_icmp .lt 5, 3) := by decide +kernel
theorem dX10_law_9 : decode cX10_law 9 = .ok (.iconst (-1), 1) := by decide +kernel
theorem dX10_law_10 : decode cX10_law 10 = .ok (.ireturn, 1) := by decide +kernel
theorem dX10_law_11 : decode cX10_law 11 = .ok (.aload_n 0, 1) := by decide +kernel
theorem dX10_law_12 : decode cX10_law 12 = .ok (.getfield 29, 3) := by decide +kernel
theorem dX10_law_15 : decode cX10_law 15 = .ok (.aload_n 0, 1) := by decide +kernel
theorem dX10_law_16 : decode cX10_law 16 = .ok (.getfield 128, 3) := by decide +kernel
theorem dX10_law_19 : decode cX10_law 19 = .ok (.aaload, 1) := by decide +kernel
theorem dX10_law_20 : decode cX10_law 20 = .ok (.ifnonnull 19, 3) := by decide +kernel
theorem dX10_law_39 : decode cX10_law 39 = .ok (.aload_n 0, 1) := by decide +kernel
theorem dX10_law_40 : decode cX10_law 40 = .ok (.getfield 36, 3) := by decide +kernel
theorem dX10_law_43 : decode cX10_law 43 = .ok (.aload_n 0, 1) := by decide +kernel
theorem dX10_law_44 : decode cX10_law 44 = .ok (.getfield 23, 3) := by decide +kernel
theorem dX10_law_47 : decode cX10_law 47 = .ok (.aload_n 0, 1) := by decide +kernel
theorem dX10_law_48 : decode cX10_law 48 = .ok (.getfield 121, 3) := by decide +kernel
theorem dX10_law_51 : decode cX10_law 51 = .ok (.aload_n 0, 1) := by decide +kernel
theorem dX10_law_52 : decode cX10_law 52 = .ok (.getfield 29, 3) := by decide +kernel
theorem dX10_law_55 : decode cX10_law 55 = .ok (.aload_n 0, 1) := by decide +kernel
theorem dX10_law_56 : decode cX10_law 56 = .ok (.getfield 128, 3) := by decide +kernel
theorem dX10_law_59 : decode cX10_law 59 = .ok (.aaload, 1) := by decide +kernel
theorem dX10_law_60 : decode cX10_law 60 = .ok (.invokevirtual 132, 3) := by decide +kernel
theorem dX10_law_63 : decode cX10_law 63 = .ok (.istore_n 1, 1) := by decide +kernel
theorem dX10_law_64 : decode cX10_law 64 = .ok (.aload_n 0, 1) := by decide +kernel
theorem dX10_law_65 : decode cX10_law 65 = .ok (.iconst 0, 1) := by decide +kernel
theorem dX10_law_66 : decode cX10_law 66 = .ok (.putfield 121, 3) := by decide +kernel
theorem dX10_law_69 : decode cX10_law 69 = .ok (.iload_n 1, 1) := by decide +kernel
theorem dX10_law_70 : decode cX10_law 70 = .ok (.ifCond .eq 8, 3) := by decide +kernel
theorem dX10_law_78 : decode cX10_law 78 = .ok (.aload_n 0, 1) := by decide +kernel
theorem dX10_law_79 : decode cX10_law 79 = .ok (.dup, 1) := by decide +kernel
theorem dX10_law_80 : decode cX10_law 80 = .ok (.getfield 128, 3) := by decide +kernel
theorem dX10_law_83 : decode cX10_law 83 = .ok (.iconst 1, 1) := by decide +kernel
theorem dX10_law_84 : decode cX10_law 84 = .ok (.iadd, 1) := by decide +kernel
theorem dX10_law_85 : decode cX10_law 85 = .ok (.putfield 128, 3) := by decide +kernel
theorem dX10_law_88 : decode cX10_law 88 = .ok (.aload_n 0, 1) := by decide +kernel
theorem dX10_law_89 : decode cX10_law 89 = .ok (.getfield 128, 3) := by decide +kernel
theorem dX10_law_92 : decode cX10_law 92 = .ok (.iconst 1, 1) := by decide +kernel
theorem dX10_law_93 : decode cX10_law 93 = .ok (.isub, 1) := by decide +kernel
theorem dX10_law_94 : decode cX10_law 94 = .ok (.ireturn, 1) := by decide +kernel
theorem dX10_law_73 : decode cX10_law 73 = .ok (.bipush (-2), 2) := by decide +kernel
theorem dX10_law_75 : decode cX10_law 75 = .ok (.iload_n 1, 1) := by decide +kernel
theorem dX10_law_76 : decode cX10_law 76 = .ok (.isub, 1) := by decide +kernel
theorem dX10_law_77 : decode cX10_law 77 = .ok (.ireturn, 1) := by decide +kernel
theorem dX10_law_23 : decode cX10_law 23 = .ok (.aload_n 0, 1) := by decide +kernel
theorem dX10_law_24 : decode cX10_law 24 = .ok (.getfield 29, 3) := by decide +kernel
theorem dX10_law_27 : decode cX10_law 27 = .ok (.aload_n 0, 1) := by decide +kernel
theorem dX10_law_28 : decode cX10_law 28 = .ok (.getfield 128, 3) := by decide +kernel
theorem dX10_law_31 : decode cX10_law 31 = .ok (.new 27, 3) := by decide +kernel
theorem dX10_law_34 : decode cX10_law 34 = .ok (.dup, 1) := by decide +kernel
theorem dX10_law_35 : decode cX10_law 35 = .ok (.invokespecial 131, 3) := by decide +kernel
theorem dX10_law_38 : decode cX10_law 38 = .ok (.aastore, 1) := by decide +kernel

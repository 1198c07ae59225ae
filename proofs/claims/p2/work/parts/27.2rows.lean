theorem kX11_clauseOf_1 {a : Array Value} {s : State} (hts : ∀ w ∈ wsX11_clauseOf, w.before a s = true) : (.fieldLink RX11 144 "SnowMulesModel" "text" "I" : Cond).before a s = true := hts _ (List.mem_of_getElem? (i := 1) (by decide +kernel))
theorem kX11_clauseOf_2 {a : Array Value} {s : State} (hts : ∀ w ∈ wsX11_clauseOf, w.before a s = true) : (.fieldLink RX11 23 "SnowMulesModel" "clauses" "[I" : Cond).before a s = true := hts _ (List.mem_of_getElem? (i := 2) (by decide +kernel))
theorem kX11_clauseOf_3 {a : Array Value} {s : State} (hts : ∀ w ∈ wsX11_clauseOf, w.before a s = true) : (.fieldLink RX11 20 "SnowMulesModel" "clause" "[I" : Cond).before a s = true := hts _ (List.mem_of_getElem? (i := 3) (by decide +kernel))
theorem kX11_clauseOf_4 {a : Array Value} {s : State} (hts : ∀ w ∈ wsX11_clauseOf, w.before a s = true) : (.fieldLink RX11 17 "SnowMulesModel" "length" "[I" : Cond).before a s = true := hts _ (List.mem_of_getElem? (i := 4) (by decide +kernel))
theorem kX11_clauseOf_5 {a : Array Value} {s : State} (hts : ∀ w ∈ wsX11_clauseOf, w.before a s = true) : (.constantLong RX11 208 (26982) : Cond).before a s = true := hts _ (List.mem_of_getElem? (i := 5) (by decide +kernel))
theorem iX11_clauseOf_X11 : ∀ w ∈ wsX110, w ∈ wsX11_clauseOf := by decide +kernel
theorem dX11_clauseOf_0 : decode cX11_clauseOf 0 = .ok (.aload_n 0, 1) := by decide +kernel
theorem dX11_clauseOf_1 : decode cX11_clauseOf 1 = .ok (.invokevirtual 105, 3) := by decide +kernel
theorem dX11_clauseOf_4 : decode cX11_clauseOf 4 = .ok (.bipush 60, 2) := by decide +kernel
theorem dX11_clauseOf_6 : decode cX11_clauseOf 6 = .ok (.aload_n 0, 1) := by decide +kernel
theorem dX11_clauseOf_7 : decode cX11_clauseOf 7 = .ok (.getfield 144, 3) := by decide +kernel
theorem dX11_clauseOf_10 : decode cX11_clauseOf 10 = .ok (.imul, 1) := by decide +kernel
theorem dX11_clauseOf_11 : decode cX11_clauseOf 11 = .ok (.iconst 5, 1) := by decide +kernel
theorem dX11_clauseOf_12 : decode cX11_clauseOf 12 = .ok (.aload_n 0, 1) := by decide +kernel
theorem dX11_clauseOf_13 : decode cX11_clauseOf 13 = .ok (.getfield 23, 3) := by decide +kernel
theorem dX11_clauseOf_16 : decode cX11_clauseOf 16 = .ok (.aload_n 0, 1) := by decide +kernel
theorem dX11_clauseOf_17 : decode cX11_clauseOf 17 = .ok (.getfield 144, 3) := by decide +kernel
theorem dX11_clauseOf_20 : decode cX11_clauseOf 20 = .ok (.iaload, 1) := by decide +kernel
theorem dX11_clauseOf_21 : decode cX11_clauseOf 21 = .ok (.imul, 1) := by decide +kernel
theorem dX11_clauseOf_22 : decode cX11_clauseOf 22 = .ok (.iadd, 1) := by decide +kernel
theorem dX11_clauseOf_23 : decode cX11_clauseOf 23 = .ok (.istore_n 2, 1) := by decide +kernel
theorem dX11_clauseOf_24 : decode cX11_clauseOf 24 = .ok (.aload_n 0, 1) := by decide +kernel
theorem dX11_clauseOf_25 : decode cX11_clauseOf 25 = .ok (.getfield 20, 3) := by decide +kernel
theorem dX11_clauseOf_28 : decode cX11_clauseOf 28 = .ok (.iload_n 2, 1) := by decide +kernel
theorem dX11_clauseOf_29 : decode cX11_clauseOf 29 = .ok (.iload_n 1, 1) := by decide +kernel
theorem dX11_clauseOf_30 : decode cX11_clauseOf 30 = .ok (.iastore, 1) := by decide +kernel
theorem dX11_clauseOf_31 : decode cX11_clauseOf 31 = .ok (.aload_n 0, 1) := by decide +kernel
theorem dX11_clauseOf_32 : decode cX11_clauseOf 32 = .ok (.getfield 20, 3) := by decide +kernel
theorem dX11_clauseOf_35 : decode cX11_clauseOf 35 = .ok (.iload_n 2, 1) := by decide +kernel
theorem dX11_clauseOf_36 : decode cX11_clauseOf 36 = .ok (.iconst 1, 1) := by decide +kernel
theorem dX11_clauseOf_37 : decode cX11_clauseOf 37 = .ok (.iadd, 1) := by decide +kernel
theorem dX11_clauseOf_38 : decode cX11_clauseOf 38 = .ok (.aload_n 0, 1) := by decide +kernel
theorem dX11_clauseOf_39 : decode cX11_clauseOf 39 = .ok (.getfield 17, 3) := by decide +kernel
theorem dX11_clauseOf_42 : decode cX11_clauseOf 42 = .ok (.aload_n 0, 1) := by decide +kernel
theorem dX11_clauseOf_43 : decode cX11_clauseOf 43 = .ok (.getfield 144, 3) := by decide +kernel
theorem dX11_clauseOf_46 : decode cX11_clauseOf 46 = .ok (.iaload, 1) := by decide +kernel
theorem dX11_clauseOf_47 : decode cX11_clauseOf 47 = .ok (.iastore, 1) := by decide +kernel
theorem dX11_clauseOf_48 : decode cX11_clauseOf 48 = .ok (.aload_n 0, 1) := by decide +kernel
theorem dX11_clauseOf_49 : decode cX11_clauseOf 49 = .ok (.invokevirtual 181, 3) := by decide +kernel
theorem dX11_clauseOf_52 : decode cX11_clauseOf 52 = .ok (.ifCond .ne 5, 3) := by decide +kernel
theorem dX11_clauseOf_57 : decode cX11_clauseOf 57 = .ok (.aload_n 0, 1) := by decide +kernel
theorem dX11_clauseOf_58 : decode cX11_clauseOf 58 = .ok (.getfield 20, 3) := by decide +kernel
theorem dX11_clauseOf_61 : decode cX11_clauseOf 61 = .ok (.iload_n 2, 1) := by decide +kernel
theorem dX11_clauseOf_62 : decode cX11_clauseOf 62 = .ok (.iconst 2, 1) := by decide +kernel
theorem dX11_clauseOf_63 : decode cX11_clauseOf 63 = .ok (.iadd, 1) := by decide +kernel
theorem dX11_clauseOf_64 : decode cX11_clauseOf 64 = .ok (.aload_n 0, 1) := by decide +kernel
theorem dX11_clauseOf_65 : decode cX11_clauseOf 65 = .ok (.getfield 17, 3) := by decide +kernel
theorem dX11_clauseOf_68 : decode cX11_clauseOf 68 = .ok (.aload_n 0, 1) := by decide +kernel
theorem dX11_clauseOf_69 : decode cX11_clauseOf 69 = .ok (.getfield 144, 3) := by decide +kernel
theorem dX11_clauseOf_72 : decode cX11_clauseOf 72 = .ok (.iaload, 1) := by decide +kernel
theorem dX11_clauseOf_73 : decode cX11_clauseOf 73 = .ok (.iastore, 1) := by decide +kernel
theorem dX11_clauseOf_74 : decode cX11_clauseOf 74 = .ok (.aload_n 0, 1) := by decide +kernel
theorem dX11_clauseOf_75 : decode cX11_clauseOf 75 = .ok (.getfield 20, 3) := by decide +kernel
theorem dX11_clauseOf_78 : decode cX11_clauseOf 78 = .ok (.iload_n 2, 1) := by decide +kernel
theorem dX11_clauseOf_79 : decode cX11_clauseOf 79 = .ok (.iconst 3, 1) := by decide +kernel
theorem dX11_clauseOf_80 : decode cX11_clauseOf 80 = .ok (.iadd, 1) := by decide +kernel
theorem dX11_clauseOf_81 : decode cX11_clauseOf 81 = .ok (.iconst (-1), 1) := by decide +kernel
theorem dX11_clauseOf_82 : decode cX11_clauseOf 82 = .ok (.iastore, 1) := by decide +kernel
theorem dX11_clauseOf_83 : decode cX11_clauseOf 83 = .ok (.aload_n 0, 1) := by decide +kernel
theorem dX11_clauseOf_84 : decode cX11_clauseOf 84 = .ok (.ldc2_w 208, 3) := by decide +kernel
theorem dX11_clauseOf_87 : decode cX11_clauseOf 87 = .ok (.invokevirtual 210, 3) := by decide +kernel
theorem dX11_clauseOf_90 : decode cX11_clauseOf 90 = .ok (.ifCond .eq 29, 3) := by decide +kernel
theorem dX11_clauseOf_119 : decode cX11_clauseOf 119 = .ok (.aload_n 0, 1) := by decide +kernel
theorem dX11_clauseOf_120 : decode cX11_clauseOf 120 = .ok (.getfield 20, 3) := by decide +kernel
theorem dX11_clauseOf_123 : decode cX11_clauseOf 123 = .ok (.iload_n 2, 1) := by decide +kernel
theorem dX11_clauseOf_124 : decode cX11_clauseOf 124 = .ok (.iconst 4, 1) := by decide +kernel
theorem dX11_clauseOf_125 : decode cX11_clauseOf 125 = .ok (.iadd, 1) := by decide +kernel
theorem dX11_clauseOf_126 : decode cX11_clauseOf 126 = .ok (.aload_n 0, 1) := by decide +kernel
theorem dX11_clauseOf_127 : decode cX11_clauseOf 127 = .ok (.getfield 17, 3) := by decide +kernel
theorem dX11_clauseOf_130 : decode cX11_clauseOf 130 = .ok (.aload_n 0, 1) := by decide +kernel
theorem dX11_clauseOf_131 : decode cX11_clauseOf 131 = .ok (.getfield 144, 3) := by decide +kernel
theorem dX11_clauseOf_134 : decode cX11_clauseOf 134 = .ok (.iaload, 1) := by decide +kernel
theorem dX11_clauseOf_135 : decode cX11_clauseOf 135 = .ok (.iastore, 1) := by decide +kernel
theorem dX11_clauseOf_136 : decode cX11_clauseOf 136 = .ok (.aload_n 0, 1) := by decide +kernel
theorem dX11_clauseOf_137 : decode cX11_clauseOf 137 = .ok (.getfield 23, 3) := by decide +kernel
theorem dX11_clauseOf_140 : decode cX11_clauseOf 140 = .ok (.aload_n 0, 1) := by decide +kernel
theorem dX11_clauseOf_141 : decode cX11_clauseOf 141 = .ok (.getfield 144, 3) := by decide +kernel
theorem dX11_clauseOf_144 : decode cX11_clauseOf 144 = .ok (.dup2, 1) := by decide +kernel
theorem dX11_clauseOf_145 : decode cX11_clauseOf 145 = .ok (.iaload, 1) := by decide +kernel
theorem dX11_clauseOf_146 : decode cX11_clauseOf 146 = .ok (.iconst 1, 1) := by decide +kernel
theorem dX11_clauseOf_147 : decode cX11_clauseOf 147 = .ok (.iadd, 1) := by decide +kernel
theorem dX11_clauseOf_148 : decode cX11_clauseOf 148 = .ok (.iastore, 1) := by decide +kernel
theorem dX11_clauseOf_149 : decode cX11_clauseOf 149 = .ok (.iconst 1, 1) := by decide +kernel
theorem dX11_clauseOf_93 : decode cX11_clauseOf 93 = .ok (.aload_n 0, 1) := by decide +kernel
theorem dX11_clauseOf_94 : decode cX11_clauseOf 94 = .ok (.getfield 20, 3) := by decide +kernel
theorem dX11_clauseOf_97 : decode cX11_clauseOf 97 = .ok (.iload_n 2, 1) := by decide +kernel
theorem dX11_clauseOf_98 : decode cX11_clauseOf 98 = .ok (.iconst 3, 1) := by decide +kernel
theorem dX11_clauseOf_99 : decode cX11_clauseOf 99 = .ok (.iadd, 1) := by decide +kernel
theorem dX11_clauseOf_100 : decode cX11_clauseOf 100 = .ok (.aload_n 0, 1) := by decide +kernel
theorem dX11_clauseOf_101 : decode cX11_clauseOf 101 = .ok (.getfield 17, 3) := by decide +kernel
theorem dX11_clauseOf_104 : decode cX11_clauseOf 104 = .ok (.aload_n 0, 1) := by decide +kernel
theorem dX11_clauseOf_105 : decode cX11_clauseOf 105 = .ok (.getfield 144, 3) := by decide +kernel
theorem dX11_clauseOf_108 : decode cX11_clauseOf 108 = .ok (.iaload, 1) := by decide +kernel
theorem dX11_clauseOf_109 : decode cX11_clauseOf 109 = .ok (.iastore, 1) := by decide +kernel
theorem dX11_clauseOf_110 : decode cX11_clauseOf 110 = .ok (.aload_n 0, 1) := by decide +kernel
theorem dX11_clauseOf_111 : decode cX11_clauseOf 111 = .ok (.invokevirtual 213, 3) := by decide +kernel
theorem dX11_clauseOf_114 : decode cX11_clauseOf 114 = .ok (.ifCond .ne 5, 3) := by decide +kernel
theorem dX11_clauseOf_117 : decode cX11_clauseOf 117 = .ok (.iconst 0, 1) := by decide +kernel
theorem dX11_clauseOf_55 : decode cX11_clauseOf 55 = .ok (.iconst 0, 1) := by decide +kernel
theorem dX11_clauseOf_150 : decode cX11_clauseOf 150 = .ok (.ireturn, 1) := by decide +kernel
theorem dX11_clauseOf_118 : decode cX11_clauseOf 118 = .ok (.ireturn, 1) := by decide +kernel
theorem dX11_clauseOf_56 : decode cX11_clauseOf 56 = .ok (.ireturn, 1) := by decide +kernel

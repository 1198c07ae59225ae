theorem kX11_law_1 {a : Array Value} {s : State} (hts : ∀ w ∈ wsX11_law, w.before a s = true) : (.fieldLink RX11 232 "SnowMulesModel" "laws" "I" : Cond).before a s = true := hts _ (List.mem_of_getElem? (i := 1) (by decide +kernel))
theorem kX11_law_2 {a : Array Value} {s : State} (hts : ∀ w ∈ wsX11_law, w.before a s = true) : (.fieldLink RX11 144 "SnowMulesModel" "text" "I" : Cond).before a s = true := hts _ (List.mem_of_getElem? (i := 2) (by decide +kernel))
theorem kX11_law_3 {a : Array Value} {s : State} (hts : ∀ w ∈ wsX11_law, w.before a s = true) : (.fieldLink RX11 17 "SnowMulesModel" "length" "[I" : Cond).before a s = true := hts _ (List.mem_of_getElem? (i := 3) (by decide +kernel))
theorem kX11_law_4 {a : Array Value} {s : State} (hts : ∀ w ∈ wsX11_law, w.before a s = true) : (.fieldLink RX11 23 "SnowMulesModel" "clauses" "[I" : Cond).before a s = true := hts _ (List.mem_of_getElem? (i := 4) (by decide +kernel))
theorem kX11_law_5 {a : Array Value} {s : State} (hts : ∀ w ∈ wsX11_law, w.before a s = true) : (.fieldLink RX11 26 "SnowMulesModel" "chain" "[I" : Cond).before a s = true := hts _ (List.mem_of_getElem? (i := 5) (by decide +kernel))
theorem kX11_law_6 {a : Array Value} {s : State} (hts : ∀ w ∈ wsX11_law, w.before a s = true) : (.fieldLink RX11 226 "SnowMulesModel" "lines" "I" : Cond).before a s = true := hts _ (List.mem_of_getElem? (i := 6) (by decide +kernel))
theorem kX11_law_7 {a : Array Value} {s : State} (hts : ∀ w ∈ wsX11_law, w.before a s = true) : (.fieldLink RX11 90 "SnowMulesModel" "next" "I" : Cond).before a s = true := hts _ (List.mem_of_getElem? (i := 7) (by decide +kernel))
theorem kX11_law_8 {a : Array Value} {s : State} (hts : ∀ w ∈ wsX11_law, w.before a s = true) : (.fieldLink RX11 87 "SnowMulesModel" "wrong" "I" : Cond).before a s = true := hts _ (List.mem_of_getElem? (i := 8) (by decide +kernel))
theorem kX11_law_9 {a : Array Value} {s : State} (hts : ∀ w ∈ wsX11_law, w.before a s = true) : (.fieldLink RX11 147 "SnowMulesModel" "made" "I" : Cond).before a s = true := hts _ (List.mem_of_getElem? (i := 9) (by decide +kernel))
theorem kX11_law_10 {a : Array Value} {s : State} (hts : ∀ w ∈ wsX11_law, w.before a s = true) : (.fieldLink RX11 79 "SnowMulesModel" "taped" "I" : Cond).before a s = true := hts _ (List.mem_of_getElem? (i := 10) (by decide +kernel))
theorem iX11_law_X11 : ∀ w ∈ wsX110, w ∈ wsX11_law := by decide +kernel
theorem dX11_law_0 : decode cX11_law 0 = .ok (.aload_n 0, 1) := by decide +kernel
theorem dX11_law_1 : decode cX11_law 1 = .ok (.getfield 232, 3) := by decide +kernel
theorem dX11_law_4 : decode cX11_law 4 = .ok (.bipush 6, 2) := by decide +kernel
theorem dX11_law_6 : decode cX11_law 6 = .ok (.if_icmp .ne 5, 3) := by decide +kernel
theorem dX11_law_11 : decode cX11_law 11 = .ok (.aload_n 0, 1) := by decide +kernel
theorem dX11_law_12 : decode cX11_law 12 = .ok (.aload_n 0, 1) := by decide +kernel
theorem dX11_law_13 : decode cX11_law 13 = .ok (.getfield 232, 3) := by decide +kernel
theorem dX11_law_16 : decode cX11_law 16 = .ok (.putfield 144, 3) := by decide +kernel
theorem dX11_law_19 : decode cX11_law 19 = .ok (.aload_n 0, 1) := by decide +kernel
theorem dX11_law_20 : decode cX11_law 20 = .ok (.getfield 17, 3) := by decide +kernel
theorem dX11_law_23 : decode cX11_law 23 = .ok (.aload_n 0, 1) := by decide +kernel
theorem dX11_law_24 : decode cX11_law 24 = .ok (.getfield 144, 3) := by decide +kernel
theorem dX11_law_27 : decode cX11_law 27 = .ok (.iconst 0, 1) := by decide +kernel
theorem dX11_law_28 : decode cX11_law 28 = .ok (.iastore, 1) := by decide +kernel
theorem dX11_law_29 : decode cX11_law 29 = .ok (.aload_n 0, 1) := by decide +kernel
theorem dX11_law_30 : decode cX11_law 30 = .ok (.getfield 23, 3) := by decide +kernel
theorem dX11_law_33 : decode cX11_law 33 = .ok (.aload_n 0, 1) := by decide +kernel
theorem dX11_law_34 : decode cX11_law 34 = .ok (.getfield 144, 3) := by decide +kernel
theorem dX11_law_37 : decode cX11_law 37 = .ok (.iconst 0, 1) := by decide +kernel
theorem dX11_law_38 : decode cX11_law 38 = .ok (.iastore, 1) := by decide +kernel
theorem dX11_law_39 : decode cX11_law 39 = .ok (.aload_n 0, 1) := by decide +kernel
theorem dX11_law_40 : decode cX11_law 40 = .ok (.getfield 26, 3) := by decide +kernel
theorem dX11_law_43 : decode cX11_law 43 = .ok (.aload_n 0, 1) := by decide +kernel
theorem dX11_law_44 : decode cX11_law 44 = .ok (.getfield 144, 3) := by decide +kernel
theorem dX11_law_47 : decode cX11_law 47 = .ok (.iconst (-1), 1) := by decide +kernel
theorem dX11_law_48 : decode cX11_law 48 = .ok (.iastore, 1) := by decide +kernel
theorem dX11_law_49 : decode cX11_law 49 = .ok (.aload_n 0, 1) := by decide +kernel
theorem dX11_law_50 : decode cX11_law 50 = .ok (.iconst 0, 1) := by decide +kernel
theorem dX11_law_51 : decode cX11_law 51 = .ok (.putfield 226, 3) := by decide +kernel
theorem dX11_law_54 : decode cX11_law 54 = .ok (.aload_n 0, 1) := by decide +kernel
theorem dX11_law_55 : decode cX11_law 55 = .ok (.iconst 0, 1) := by decide +kernel
theorem dX11_law_56 : decode cX11_law 56 = .ok (.putfield 90, 3) := by decide +kernel
theorem dX11_law_59 : decode cX11_law 59 = .ok (.aload_n 0, 1) := by decide +kernel
theorem dX11_law_60 : decode cX11_law 60 = .ok (.iconst 0, 1) := by decide +kernel
theorem dX11_law_61 : decode cX11_law 61 = .ok (.putfield 87, 3) := by decide +kernel
theorem dX11_law_64 : decode cX11_law 64 = .ok (.aload_n 0, 1) := by decide +kernel
theorem dX11_law_65 : decode cX11_law 65 = .ok (.iconst 0, 1) := by decide +kernel
theorem dX11_law_66 : decode cX11_law 66 = .ok (.putfield 147, 3) := by decide +kernel
theorem dX11_law_69 : decode cX11_law 69 = .ok (.aload_n 0, 1) := by decide +kernel
theorem dX11_law_70 : decode cX11_law 70 = .ok (.invokevirtual 235, 3) := by decide +kernel
theorem dX11_law_73 : decode cX11_law 73 = .ok (.istore_n 1, 1) := by decide +kernel
theorem dX11_law_74 : decode cX11_law 74 = .ok (.iload_n 1, 1) := by decide +kernel
theorem dX11_law_75 : decode cX11_law 75 = .ok (.ifCond .eq 30, 3) := by decide +kernel
theorem dX11_law_78 : decode cX11_law 78 = .ok (.aload_n 0, 1) := by decide +kernel
theorem dX11_law_79 : decode cX11_law 79 = .ok (.invokevirtual 93, 3) := by decide +kernel
theorem dX11_law_82 : decode cX11_law 82 = .ok (.bipush 59, 2) := by decide +kernel
theorem dX11_law_84 : decode cX11_law 84 = .ok (.if_icmp .ne 21, 3) := by decide +kernel
theorem dX11_law_87 : decode cX11_law 87 = .ok (.aload_n 0, 1) := by decide +kernel
theorem dX11_law_88 : decode cX11_law 88 = .ok (.dup, 1) := by decide +kernel
theorem dX11_law_89 : decode cX11_law 89 = .ok (.getfield 90, 3) := by decide +kernel
theorem dX11_law_92 : decode cX11_law 92 = .ok (.iconst 1, 1) := by decide +kernel
theorem dX11_law_93 : decode cX11_law 93 = .ok (.iadd, 1) := by decide +kernel
theorem dX11_law_94 : decode cX11_law 94 = .ok (.putfield 90, 3) := by decide +kernel
theorem dX11_law_97 : decode cX11_law 97 = .ok (.aload_n 0, 1) := by decide +kernel
theorem dX11_law_98 : decode cX11_law 98 = .ok (.invokevirtual 235, 3) := by decide +kernel
theorem dX11_law_101 : decode cX11_law 101 = .ok (.istore_n 1, 1) := by decide +kernel
theorem dX11_law_102 : decode cX11_law 102 = .ok (.goto (-28), 3) := by decide +kernel
theorem dX11_law_105 : decode cX11_law 105 = .ok (.iload_n 1, 1) := by decide +kernel
theorem dX11_law_106 : decode cX11_law 106 = .ok (.ifCond .eq 21, 3) := by decide +kernel
theorem dX11_law_127 : decode cX11_law 127 = .ok (.aload_n 0, 1) := by decide +kernel
theorem dX11_law_128 : decode cX11_law 128 = .ok (.iconst 0, 1) := by decide +kernel
theorem dX11_law_129 : decode cX11_law 129 = .ok (.putfield 79, 3) := by decide +kernel
theorem dX11_law_132 : decode cX11_law 132 = .ok (.aload_n 0, 1) := by decide +kernel
theorem dX11_law_133 : decode cX11_law 133 = .ok (.getfield 87, 3) := by decide +kernel
theorem dX11_law_136 : decode cX11_law 136 = .ok (.ifCond .le 11, 3) := by decide +kernel
theorem dX11_law_147 : decode cX11_law 147 = .ok (.aload_n 0, 1) := by decide +kernel
theorem dX11_law_148 : decode cX11_law 148 = .ok (.getfield 26, 3) := by decide +kernel
theorem dX11_law_151 : decode cX11_law 151 = .ok (.aload_n 0, 1) := by decide +kernel
theorem dX11_law_152 : decode cX11_law 152 = .ok (.getfield 144, 3) := by decide +kernel
theorem dX11_law_155 : decode cX11_law 155 = .ok (.iaload, 1) := by decide +kernel
theorem dX11_law_156 : decode cX11_law 156 = .ok (.ifCond .ge 13, 3) := by decide +kernel
theorem dX11_law_169 : decode cX11_law 169 = .ok (.aload_n 0, 1) := by decide +kernel
theorem dX11_law_170 : decode cX11_law 170 = .ok (.dup, 1) := by decide +kernel
theorem dX11_law_171 : decode cX11_law 171 = .ok (.getfield 232, 3) := by decide +kernel
theorem dX11_law_174 : decode cX11_law 174 = .ok (.iconst 1, 1) := by decide +kernel
theorem dX11_law_175 : decode cX11_law 175 = .ok (.iadd, 1) := by decide +kernel
theorem dX11_law_176 : decode cX11_law 176 = .ok (.putfield 232, 3) := by decide +kernel
theorem dX11_law_179 : decode cX11_law 179 = .ok (.aload_n 0, 1) := by decide +kernel
theorem dX11_law_180 : decode cX11_law 180 = .ok (.getfield 232, 3) := by decide +kernel
theorem dX11_law_183 : decode cX11_law 183 = .ok (.iconst 1, 1) := by decide +kernel
theorem dX11_law_184 : decode cX11_law 184 = .ok (.isub, 1) := by decide +kernel
theorem dX11_law_159 : decode cX11_law 159 = .ok (.aload_n 0, 1) := by decide +kernel
theorem dX11_law_160 : decode cX11_law 160 = .ok (.getfield 26, 3) := by decide +kernel
theorem dX11_law_163 : decode cX11_law 163 = .ok (.aload_n 0, 1) := by decide +kernel
theorem dX11_law_164 : decode cX11_law 164 = .ok (.getfield 144, 3) := by decide +kernel
theorem dX11_law_167 : decode cX11_law 167 = .ok (.iconst 0, 1) := by decide +kernel
theorem dX11_law_168 : decode cX11_law 168 = .ok (.iastore, 1) := by decide +kernel
theorem dX11_law_139 : decode cX11_law 139 = .ok (.bipush (-2), 2) := by decide +kernel
theorem dX11_law_141 : decode cX11_law 141 = .ok (.aload_n 0, 1) := by decide +kernel
theorem dX11_law_142 : decode cX11_law 142 = .ok (.getfield 87, 3) := by decide +kernel
theorem dX11_law_145 : decode cX11_law 145 = .ok (.isub, 1) := by decide +kernel
theorem dX11_law_109 : decode cX11_law 109 = .ok (.aload_n 0, 1) := by decide +kernel
theorem dX11_law_110 : decode cX11_law 110 = .ok (.invokevirtual 93, 3) := by decide +kernel
theorem dX11_law_113 : decode cX11_law 113 = .ok (.iconst (-1), 1) := by decide +kernel
theorem dX11_law_114 : decode cX11_law 114 = .ok (.if_icmp .eq 13, 3) := by decide +kernel
theorem dX11_law_117 : decode cX11_law 117 = .ok (.aload_n 0, 1) := by decide +kernel
theorem dX11_law_118 : decode cX11_law 118 = .ok (.iconst 0, 1) := by decide +kernel
theorem dX11_law_119 : decode cX11_law 119 = .ok (.aload_n 0, 1) := by decide +kernel
theorem dX11_law_120 : decode cX11_law 120 = .ok (.getfield 90, 3) := by decide +kernel
theorem dX11_law_123 : decode cX11_law 123 = .ok (.invokevirtual 111, 3) := by decide +kernel
theorem dX11_law_126 : decode cX11_law 126 = .ok (.pop, 1) := by decide +kernel
theorem dX11_law_9 : decode cX11_law 9 = .ok (.iconst (-1), 1) := by decide +kernel
theorem dX11_law_10 : decode cX11_law 10 = .ok (.ireturn, 1) := by decide +kernel
theorem dX11_law_185 : decode cX11_law 185 = .ok (.ireturn, 1) := by decide +kernel
theorem dX11_law_146 : decode cX11_law 146 = .ok (.ireturn, 1) := by decide +kernel

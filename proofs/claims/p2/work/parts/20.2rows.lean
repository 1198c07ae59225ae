theorem kX11_warmer_1 {a : Array Value} {s : State} (hts : ∀ w ∈ wsX11_warmer, w.before a s = true) : (.constantLong RX11 289 (99999) : Cond).before a s = true := hts _ (List.mem_of_getElem? (i := 1) (by decide +kernel))
theorem kX11_warmer_2 {a : Array Value} {s : State} (hts : ∀ w ∈ wsX11_warmer, w.before a s = true) : (.fieldLink RX11 39 "SnowMulesModel" "said" "[I" : Cond).before a s = true := hts _ (List.mem_of_getElem? (i := 2) (by decide +kernel))
theorem kX11_warmer_3 {a : Array Value} {s : State} (hts : ∀ w ∈ wsX11_warmer, w.before a s = true) : (.fieldLink RX11 396 "SnowMulesModel" "goMore" "I" : Cond).before a s = true := hts _ (List.mem_of_getElem? (i := 3) (by decide +kernel))
theorem kX11_warmer_4 {a : Array Value} {s : State} (hts : ∀ w ∈ wsX11_warmer, w.before a s = true) : (.fieldLink RX11 384 "SnowMulesModel" "goDrops" "I" : Cond).before a s = true := hts _ (List.mem_of_getElem? (i := 4) (by decide +kernel))
theorem kX11_nights_1 {a : Array Value} {s : State} (hts : ∀ w ∈ wsX11_nights, w.before a s = true) : (.fieldLink RX11 39 "SnowMulesModel" "said" "[I" : Cond).before a s = true := hts _ (List.mem_of_getElem? (i := 1) (by decide +kernel))
theorem kX11_nights_2 {a : Array Value} {s : State} (hts : ∀ w ∈ wsX11_nights, w.before a s = true) : (.constantLong RX11 289 (99999) : Cond).before a s = true := hts _ (List.mem_of_getElem? (i := 2) (by decide +kernel))
theorem kX11_nights_3 {a : Array Value} {s : State} (hts : ∀ w ∈ wsX11_nights, w.before a s = true) : (.constantLong RX11 467 (20) : Cond).before a s = true := hts _ (List.mem_of_getElem? (i := 3) (by decide +kernel))
theorem kX11_nights_4 {a : Array Value} {s : State} (hts : ∀ w ∈ wsX11_nights, w.before a s = true) : (.constantLong RX11 437 (2) : Cond).before a s = true := hts _ (List.mem_of_getElem? (i := 4) (by decide +kernel))
theorem kX11_nights_5 {a : Array Value} {s : State} (hts : ∀ w ∈ wsX11_nights, w.before a s = true) : (.fieldLink RX11 387 "SnowMulesModel" "goHour" "I" : Cond).before a s = true := hts _ (List.mem_of_getElem? (i := 5) (by decide +kernel))
theorem kX11_nights_6 {a : Array Value} {s : State} (hts : ∀ w ∈ wsX11_nights, w.before a s = true) : (.fieldLink RX11 381 "SnowMulesModel" "goNode" "I" : Cond).before a s = true := hts _ (List.mem_of_getElem? (i := 6) (by decide +kernel))
theorem kX11_nights_7 {a : Array Value} {s : State} (hts : ∀ w ∈ wsX11_nights, w.before a s = true) : (.fieldLink RX11 384 "SnowMulesModel" "goDrops" "I" : Cond).before a s = true := hts _ (List.mem_of_getElem? (i := 7) (by decide +kernel))
theorem kX11_nights_8 {a : Array Value} {s : State} (hts : ∀ w ∈ wsX11_nights, w.before a s = true) : (.fieldLink RX11 390 "SnowMulesModel" "goFelt" "I" : Cond).before a s = true := hts _ (List.mem_of_getElem? (i := 8) (by decide +kernel))
theorem kX11_nights_9 {a : Array Value} {s : State} (hts : ∀ w ∈ wsX11_nights, w.before a s = true) : (.fieldLink RX11 393 "SnowMulesModel" "goSalt" "I" : Cond).before a s = true := hts _ (List.mem_of_getElem? (i := 9) (by decide +kernel))
theorem kX11_nights_10 {a : Array Value} {s : State} (hts : ∀ w ∈ wsX11_nights, w.before a s = true) : (.constantLong RX11 272 (1000) : Cond).before a s = true := hts _ (List.mem_of_getElem? (i := 10) (by decide +kernel))
theorem iX11_warmer_X11 : ∀ w ∈ wsX110, w ∈ wsX11_warmer := by decide +kernel
theorem iX11_nights_X11 : ∀ w ∈ wsX110, w ∈ wsX11_nights := by decide +kernel
theorem dX11_warmer_0 : decode cX11_warmer 0 = .ok (.aload_n 0, 1) := by decide +kernel
theorem dX11_warmer_1 : decode cX11_warmer 1 = .ok (.iload_n 1, 1) := by decide +kernel
theorem dX11_warmer_2 : decode cX11_warmer 2 = .ok (.iload_n 2, 1) := by decide +kernel
theorem dX11_warmer_3 : decode cX11_warmer 3 = .ok (.iload_n 3, 1) := by decide +kernel
theorem dX11_warmer_4 : decode cX11_warmer 4 = .ok (.iload 4, 2) := by decide +kernel
theorem dX11_warmer_6 : decode cX11_warmer 6 = .ok (.iload 5, 2) := by decide +kernel
theorem dX11_warmer_8 : decode cX11_warmer 8 = .ok (.invokevirtual 403, 3) := by decide +kernel
theorem dX11_warmer_11 : decode cX11_warmer 11 = .ok (.ifCond .eq 16, 3) := by decide +kernel
theorem dX11_warmer_27 : decode cX11_warmer 27 = .ok (.iconst (-1), 1) := by decide +kernel
theorem dX11_warmer_28 : decode cX11_warmer 28 = .ok (.ireturn, 1) := by decide +kernel
theorem dX11_warmer_14 : decode cX11_warmer 14 = .ok (.iload 6, 2) := by decide +kernel
theorem dX11_warmer_16 : decode cX11_warmer 16 = .ok (.i2l, 1) := by decide +kernel
theorem dX11_warmer_17 : decode cX11_warmer 17 = .ok (.lconst 0, 1) := by decide +kernel
theorem dX11_warmer_18 : decode cX11_warmer 18 = .ok (.ldc2_w 289, 3) := by decide +kernel
theorem dX11_warmer_21 : decode cX11_warmer 21 = .ok (.invokestatic 118, 3) := by decide +kernel
theorem dX11_warmer_24 : decode cX11_warmer 24 = .ok (.ifCond .ne 5, 3) := by decide +kernel
theorem dX11_warmer_29 : decode cX11_warmer 29 = .ok (.sipush 9999, 3) := by decide +kernel
theorem dX11_warmer_32 : decode cX11_warmer 32 = .ok (.istore 7, 2) := by decide +kernel
theorem dX11_warmer_34 : decode cX11_warmer 34 = .ok (.iload 7, 2) := by decide +kernel
theorem dX11_warmer_36 : decode cX11_warmer 36 = .ok (.ifCond .lt 80, 3) := by decide +kernel
theorem dX11_warmer_39 : decode cX11_warmer 39 = .ok (.aload_n 0, 1) := by decide +kernel
theorem dX11_warmer_40 : decode cX11_warmer 40 = .ok (.aload_n 0, 1) := by decide +kernel
theorem dX11_warmer_41 : decode cX11_warmer 41 = .ok (.getfield 39, 3) := by decide +kernel
theorem dX11_warmer_44 : decode cX11_warmer 44 = .ok (.bipush 8, 2) := by decide +kernel
theorem dX11_warmer_46 : decode cX11_warmer 46 = .ok (.iaload, 1) := by decide +kernel
theorem dX11_warmer_47 : decode cX11_warmer 47 = .ok (.iload_n 3, 1) := by decide +kernel
theorem dX11_warmer_48 : decode cX11_warmer 48 = .ok (.iload_n 2, 1) := by decide +kernel
theorem dX11_warmer_49 : decode cX11_warmer 49 = .ok (.iload 4, 2) := by decide +kernel
theorem dX11_warmer_51 : decode cX11_warmer 51 = .ok (.iload 5, 2) := by decide +kernel
theorem dX11_warmer_53 : decode cX11_warmer 53 = .ok (.invokevirtual 407, 3) := by decide +kernel
theorem dX11_warmer_56 : decode cX11_warmer 56 = .ok (.aload_n 0, 1) := by decide +kernel
theorem dX11_warmer_57 : decode cX11_warmer 57 = .ok (.iload 7, 2) := by decide +kernel
theorem dX11_warmer_59 : decode cX11_warmer 59 = .ok (.putfield 396, 3) := by decide +kernel
theorem dX11_warmer_62 : decode cX11_warmer 62 = .ok (.iconst 0, 1) := by decide +kernel
theorem dX11_warmer_63 : decode cX11_warmer 63 = .ok (.istore 8, 2) := by decide +kernel
theorem dX11_warmer_65 : decode cX11_warmer 65 = .ok (.iload 8, 2) := by decide +kernel
theorem dX11_warmer_67 : decode cX11_warmer 67 = .ok (.aload_n 0, 1) := by decide +kernel
theorem dX11_warmer_68 : decode cX11_warmer 68 = .ok (.getfield 39, 3) := by decide +kernel
theorem dX11_warmer_71 : decode cX11_warmer 71 = .ok (.bipush 9, 2) := by decide +kernel
theorem dX11_warmer_73 : decode cX11_warmer 73 = .ok (.iaload, 1) := by decide +kernel
theorem dX11_warmer_74 : decode cX11_warmer 74 = .ok (.if_icmp .ge 24, 3) := by decide +kernel
theorem dX11_warmer_77 : decode cX11_warmer 77 = .ok (.aload_n 0, 1) := by decide +kernel
theorem dX11_warmer_78 : decode cX11_warmer 78 = .ok (.iload_n 1, 1) := by decide +kernel
theorem dX11_warmer_79 : decode cX11_warmer 79 = .ok (.aload_n 0, 1) := by decide +kernel
theorem dX11_warmer_80 : decode cX11_warmer 80 = .ok (.getfield 39, 3) := by decide +kernel
theorem dX11_warmer_83 : decode cX11_warmer 83 = .ok (.bipush 10, 2) := by decide +kernel
theorem dX11_warmer_85 : decode cX11_warmer 85 = .ok (.iload 8, 2) := by decide +kernel
theorem dX11_warmer_87 : decode cX11_warmer 87 = .ok (.iadd, 1) := by decide +kernel
theorem dX11_warmer_88 : decode cX11_warmer 88 = .ok (.iaload, 1) := by decide +kernel
theorem dX11_warmer_89 : decode cX11_warmer 89 = .ok (.invokevirtual 410, 3) := by decide +kernel
theorem dX11_warmer_92 : decode cX11_warmer 92 = .ok (.iinc 8 1, 3) := by decide +kernel
theorem dX11_warmer_95 : decode cX11_warmer 95 = .ok (.goto (-30), 3) := by decide +kernel
theorem dX11_warmer_98 : decode cX11_warmer 98 = .ok (.aload_n 0, 1) := by decide +kernel
theorem dX11_warmer_99 : decode cX11_warmer 99 = .ok (.getfield 384, 3) := by decide +kernel
theorem dX11_warmer_102 : decode cX11_warmer 102 = .ok (.iload 6, 2) := by decide +kernel
theorem dX11_warmer_104 : decode cX11_warmer 104 = .ok (.if_icmp .lt 6, 3) := by decide +kernel
theorem dX11_warmer_110 : decode cX11_warmer 110 = .ok (.iinc 7 (-1), 3) := by decide +kernel
theorem dX11_warmer_113 : decode cX11_warmer 113 = .ok (.goto (-79), 3) := by decide +kernel
theorem dX11_warmer_107 : decode cX11_warmer 107 = .ok (.iload 7, 2) := by decide +kernel
theorem dX11_warmer_109 : decode cX11_warmer 109 = .ok (.ireturn, 1) := by decide +kernel
theorem dX11_warmer_116 : decode cX11_warmer 116 = .ok (.bipush (-2), 2) := by decide +kernel
theorem dX11_warmer_118 : decode cX11_warmer 118 = .ok (.ireturn, 1) := by decide +kernel
theorem dX11_nights_0 : decode cX11_nights 0 = .ok (.aload_n 0, 1) := by decide +kernel
theorem dX11_nights_1 : decode cX11_nights 1 = .ok (.iload_n 1, 1) := by decide +kernel
theorem dX11_nights_2 : decode cX11_nights 2 = .ok (.invokevirtual 363, 3) := by decide +kernel
theorem dX11_nights_5 : decode cX11_nights 5 = .ok (.ifCond .eq 59, 3) := by decide +kernel
theorem dX11_nights_64 : decode cX11_nights 64 = .ok (.iconst (-1), 1) := by decide +kernel
theorem dX11_nights_65 : decode cX11_nights 65 = .ok (.ireturn, 1) := by decide +kernel
theorem dX11_nights_8 : decode cX11_nights 8 = .ok (.aload_n 0, 1) := by decide +kernel
theorem dX11_nights_9 : decode cX11_nights 9 = .ok (.iload_n 2, 1) := by decide +kernel
theorem dX11_nights_10 : decode cX11_nights 10 = .ok (.invokevirtual 280, 3) := by decide +kernel
theorem dX11_nights_13 : decode cX11_nights 13 = .ok (.ifCond .eq 51, 3) := by decide +kernel
theorem dX11_nights_16 : decode cX11_nights 16 = .ok (.aload_n 0, 1) := by decide +kernel
theorem dX11_nights_17 : decode cX11_nights 17 = .ok (.getfield 39, 3) := by decide +kernel
theorem dX11_nights_20 : decode cX11_nights 20 = .ok (.bipush 8, 2) := by decide +kernel
theorem dX11_nights_22 : decode cX11_nights 22 = .ok (.iaload, 1) := by decide +kernel
theorem dX11_nights_23 : decode cX11_nights 23 = .ok (.ifCond .lt 41, 3) := by decide +kernel
theorem dX11_nights_26 : decode cX11_nights 26 = .ok (.iload_n 3, 1) := by decide +kernel
theorem dX11_nights_27 : decode cX11_nights 27 = .ok (.i2l, 1) := by decide +kernel
theorem dX11_nights_28 : decode cX11_nights 28 = .ok (.lconst 0, 1) := by decide +kernel
theorem dX11_nights_29 : decode cX11_nights 29 = .ok (.ldc2_w 289, 3) := by decide +kernel
theorem dX11_nights_32 : decode cX11_nights 32 = .ok (.invokestatic 118, 3) := by decide +kernel
theorem dX11_nights_35 : decode cX11_nights 35 = .ok (.ifCond .eq 29, 3) := by decide +kernel
theorem dX11_nights_38 : decode cX11_nights 38 = .ok (.iload 4, 2) := by decide +kernel
theorem dX11_nights_40 : decode cX11_nights 40 = .ok (.i2l, 1) := by decide +kernel
theorem dX11_nights_41 : decode cX11_nights 41 = .ok (.lconst 1, 1) := by decide +kernel
theorem dX11_nights_42 : decode cX11_nights 42 = .ok (.ldc2_w 467, 3) := by decide +kernel
theorem dX11_nights_45 : decode cX11_nights 45 = .ok (.invokestatic 118, 3) := by decide +kernel
theorem dX11_nights_48 : decode cX11_nights 48 = .ok (.ifCond .eq 16, 3) := by decide +kernel
theorem dX11_nights_51 : decode cX11_nights 51 = .ok (.iload 5, 2) := by decide +kernel
theorem dX11_nights_53 : decode cX11_nights 53 = .ok (.i2l, 1) := by decide +kernel
theorem dX11_nights_54 : decode cX11_nights 54 = .ok (.lconst 0, 1) := by decide +kernel
theorem dX11_nights_55 : decode cX11_nights 55 = .ok (.ldc2_w 437, 3) := by decide +kernel
theorem dX11_nights_58 : decode cX11_nights 58 = .ok (.invokestatic 118, 3) := by decide +kernel
theorem dX11_nights_61 : decode cX11_nights 61 = .ok (.ifCond .ne 5, 3) := by decide +kernel
theorem dX11_nights_66 : decode cX11_nights 66 = .ok (.aload_n 0, 1) := by decide +kernel
theorem dX11_nights_67 : decode cX11_nights 67 = .ok (.getfield 39, 3) := by decide +kernel
theorem dX11_nights_70 : decode cX11_nights 70 = .ok (.bipush 7, 2) := by decide +kernel
theorem dX11_nights_72 : decode cX11_nights 72 = .ok (.iaload, 1) := by decide +kernel
theorem dX11_nights_73 : decode cX11_nights 73 = .ok (.istore 6, 2) := by decide +kernel
theorem dX11_nights_75 : decode cX11_nights 75 = .ok (.iconst 0, 1) := by decide +kernel
theorem dX11_nights_76 : decode cX11_nights 76 = .ok (.istore 7, 2) := by decide +kernel
theorem dX11_nights_78 : decode cX11_nights 78 = .ok (.iconst 0, 1) := by decide +kernel
theorem dX11_nights_79 : decode cX11_nights 79 = .ok (.istore 8, 2) := by decide +kernel
theorem dX11_nights_81 : decode cX11_nights 81 = .ok (.iconst 0, 1) := by decide +kernel
theorem dX11_nights_82 : decode cX11_nights 82 = .ok (.istore 9, 2) := by decide +kernel
theorem dX11_nights_84 : decode cX11_nights 84 = .ok (.iconst 0, 1) := by decide +kernel
theorem dX11_nights_85 : decode cX11_nights 85 = .ok (.istore 10, 2) := by decide +kernel
theorem dX11_nights_87 : decode cX11_nights 87 = .ok (.iload 10, 2) := by decide +kernel
theorem dX11_nights_89 : decode cX11_nights 89 = .ok (.iload 4, 2) := by decide +kernel
theorem dX11_nights_91 : decode cX11_nights 91 = .ok (.if_icmp .ge 221, 3) := by decide +kernel
theorem dX11_nights_94 : decode cX11_nights 94 = .ok (.aload_n 0, 1) := by decide +kernel
theorem dX11_nights_95 : decode cX11_nights 95 = .ok (.aload_n 0, 1) := by decide +kernel
theorem dX11_nights_96 : decode cX11_nights 96 = .ok (.getfield 39, 3) := by decide +kernel
theorem dX11_nights_99 : decode cX11_nights 99 = .ok (.bipush 8, 2) := by decide +kernel
theorem dX11_nights_101 : decode cX11_nights 101 = .ok (.iaload, 1) := by decide +kernel
theorem dX11_nights_102 : decode cX11_nights 102 = .ok (.iload_n 3, 1) := by decide +kernel
theorem dX11_nights_103 : decode cX11_nights 103 = .ok (.aload_n 0, 1) := by decide +kernel
theorem dX11_nights_104 : decode cX11_nights 104 = .ok (.getfield 39, 3) := by decide +kernel
theorem dX11_nights_107 : decode cX11_nights 107 = .ok (.iconst 5, 1) := by decide +kernel
theorem dX11_nights_108 : decode cX11_nights 108 = .ok (.iaload, 1) := by decide +kernel
theorem dX11_nights_109 : decode cX11_nights 109 = .ok (.aload_n 0, 1) := by decide +kernel
theorem dX11_nights_110 : decode cX11_nights 110 = .ok (.iload_n 2, 1) := by decide +kernel
theorem dX11_nights_111 : decode cX11_nights 111 = .ok (.iconst 0, 1) := by decide +kernel
theorem dX11_nights_112 : decode cX11_nights 112 = .ok (.invokevirtual 283, 3) := by decide +kernel
theorem dX11_nights_115 : decode cX11_nights 115 = .ok (.aload_n 0, 1) := by decide +kernel
theorem dX11_nights_116 : decode cX11_nights 116 = .ok (.iload_n 2, 1) := by decide +kernel
theorem dX11_nights_117 : decode cX11_nights 117 = .ok (.iconst 1, 1) := by decide +kernel
theorem dX11_nights_118 : decode cX11_nights 118 = .ok (.invokevirtual 283, 3) := by decide +kernel
theorem dX11_nights_121 : decode cX11_nights 121 = .ok (.invokevirtual 407, 3) := by decide +kernel
theorem dX11_nights_124 : decode cX11_nights 124 = .ok (.iconst 1, 1) := by decide +kernel
theorem dX11_nights_125 : decode cX11_nights 125 = .ok (.istore 11, 2) := by decide +kernel
theorem dX11_nights_127 : decode cX11_nights 127 = .ok (.iconst 0, 1) := by decide +kernel
theorem dX11_nights_128 : decode cX11_nights 128 = .ok (.istore 12, 2) := by decide +kernel
theorem dX11_nights_130 : decode cX11_nights 130 = .ok (.iload 12, 2) := by decide +kernel
theorem dX11_nights_132 : decode cX11_nights 132 = .ok (.aload_n 0, 1) := by decide +kernel
theorem dX11_nights_133 : decode cX11_nights 133 = .ok (.getfield 39, 3) := by decide +kernel
theorem dX11_nights_136 : decode cX11_nights 136 = .ok (.bipush 9, 2) := by decide +kernel
theorem dX11_nights_138 : decode cX11_nights 138 = .ok (.iaload, 1) := by decide +kernel
theorem dX11_nights_139 : decode cX11_nights 139 = .ok (.if_icmp .ge 134, 3) := by decide +kernel
theorem dX11_nights_142 : decode cX11_nights 142 = .ok (.iload 11, 2) := by decide +kernel
theorem dX11_nights_144 : decode cX11_nights 144 = .ok (.ifCond .eq 129, 3) := by decide +kernel
theorem dX11_nights_147 : decode cX11_nights 147 = .ok (.aload_n 0, 1) := by decide +kernel
theorem dX11_nights_148 : decode cX11_nights 148 = .ok (.iload_n 1, 1) := by decide +kernel
theorem dX11_nights_149 : decode cX11_nights 149 = .ok (.aload_n 0, 1) := by decide +kernel
theorem dX11_nights_150 : decode cX11_nights 150 = .ok (.getfield 39, 3) := by decide +kernel
theorem dX11_nights_153 : decode cX11_nights 153 = .ok (.bipush 10, 2) := by decide +kernel
theorem dX11_nights_155 : decode cX11_nights 155 = .ok (.iload 12, 2) := by decide +kernel
theorem dX11_nights_157 : decode cX11_nights 157 = .ok (.iadd, 1) := by decide +kernel
theorem dX11_nights_158 : decode cX11_nights 158 = .ok (.iaload, 1) := by decide +kernel
theorem dX11_nights_159 : decode cX11_nights 159 = .ok (.invokevirtual 410, 3) := by decide +kernel
theorem dX11_nights_162 : decode cX11_nights 162 = .ok (.aload_n 0, 1) := by decide +kernel
theorem dX11_nights_163 : decode cX11_nights 163 = .ok (.invokevirtual 351, 3) := by decide +kernel
theorem dX11_nights_166 : decode cX11_nights 166 = .ok (.aload_n 0, 1) := by decide +kernel
theorem dX11_nights_167 : decode cX11_nights 167 = .ok (.aload_n 0, 1) := by decide +kernel
theorem dX11_nights_168 : decode cX11_nights 168 = .ok (.getfield 39, 3) := by decide +kernel
theorem dX11_nights_171 : decode cX11_nights 171 = .ok (.bipush 10, 2) := by decide +kernel
theorem dX11_nights_173 : decode cX11_nights 173 = .ok (.iload 12, 2) := by decide +kernel
theorem dX11_nights_175 : decode cX11_nights 175 = .ok (.iadd, 1) := by decide +kernel
theorem dX11_nights_176 : decode cX11_nights 176 = .ok (.iaload, 1) := by decide +kernel
theorem dX11_nights_177 : decode cX11_nights 177 = .ok (.iconst 4, 1) := by decide +kernel
theorem dX11_nights_178 : decode cX11_nights 178 = .ok (.invokevirtual 303, 3) := by decide +kernel
theorem dX11_nights_181 : decode cX11_nights 181 = .ok (.if_icmp .lt 7, 3) := by decide +kernel
theorem dX11_nights_188 : decode cX11_nights 188 = .ok (.iconst 0, 1) := by decide +kernel
theorem dX11_nights_189 : decode cX11_nights 189 = .ok (.istore 11, 2) := by decide +kernel
theorem dX11_nights_191 : decode cX11_nights 191 = .ok (.iload 9, 2) := by decide +kernel
theorem dX11_nights_193 : decode cX11_nights 193 = .ok (.iload 11, 2) := by decide +kernel
theorem dX11_nights_195 : decode cX11_nights 195 = .ok (.ifCond .eq 7, 3) := by decide +kernel
theorem dX11_nights_202 : decode cX11_nights 202 = .ok (.iconst 1, 1) := by decide +kernel
theorem dX11_nights_203 : decode cX11_nights 203 = .ok (.iadd, 1) := by decide +kernel
theorem dX11_nights_204 : decode cX11_nights 204 = .ok (.istore 9, 2) := by decide +kernel
theorem dX11_nights_206 : decode cX11_nights 206 = .ok (.iload 11, 2) := by decide +kernel
theorem dX11_nights_208 : decode cX11_nights 208 = .ok (.ifCond .ne 6, 3) := by decide +kernel
theorem dX11_nights_211 : decode cX11_nights 211 = .ok (.goto 56, 3) := by decide +kernel
theorem dX11_nights_267 : decode cX11_nights 267 = .ok (.iinc 12 1, 3) := by decide +kernel
theorem dX11_nights_270 : decode cX11_nights 270 = .ok (.goto (-140), 3) := by decide +kernel
theorem dX11_nights_184 : decode cX11_nights 184 = .ok (.iconst 1, 1) := by decide +kernel
theorem dX11_nights_185 : decode cX11_nights 185 = .ok (.goto 4, 3) := by decide +kernel
theorem dX11_nights_198 : decode cX11_nights 198 = .ok (.iconst 0, 1) := by decide +kernel
theorem dX11_nights_199 : decode cX11_nights 199 = .ok (.goto 4, 3) := by decide +kernel
theorem dX11_nights_214 : decode cX11_nights 214 = .ok (.aload_n 0, 1) := by decide +kernel
theorem dX11_nights_215 : decode cX11_nights 215 = .ok (.aload_n 0, 1) := by decide +kernel
theorem dX11_nights_216 : decode cX11_nights 216 = .ok (.getfield 387, 3) := by decide +kernel
theorem dX11_nights_219 : decode cX11_nights 219 = .ok (.aload_n 0, 1) := by decide +kernel
theorem dX11_nights_220 : decode cX11_nights 220 = .ok (.getfield 381, 3) := by decide +kernel
theorem dX11_nights_223 : decode cX11_nights 223 = .ok (.aload_n 0, 1) := by decide +kernel
theorem dX11_nights_224 : decode cX11_nights 224 = .ok (.getfield 384, 3) := by decide +kernel
theorem dX11_nights_227 : decode cX11_nights 227 = .ok (.aload_n 0, 1) := by decide +kernel
theorem dX11_nights_228 : decode cX11_nights 228 = .ok (.getfield 390, 3) := by decide +kernel
theorem dX11_nights_231 : decode cX11_nights 231 = .ok (.aload_n 0, 1) := by decide +kernel
theorem dX11_nights_232 : decode cX11_nights 232 = .ok (.getfield 393, 3) := by decide +kernel
theorem dX11_nights_235 : decode cX11_nights 235 = .ok (.invokevirtual 330, 3) := by decide +kernel
theorem dX11_nights_238 : decode cX11_nights 238 = .ok (.aload_n 0, 1) := by decide +kernel
theorem dX11_nights_239 : decode cX11_nights 239 = .ok (.invokevirtual 351, 3) := by decide +kernel
theorem dX11_nights_242 : decode cX11_nights 242 = .ok (.i2l, 1) := by decide +kernel
theorem dX11_nights_243 : decode cX11_nights 243 = .ok (.aload_n 0, 1) := by decide +kernel
theorem dX11_nights_244 : decode cX11_nights 244 = .ok (.iload_n 1, 1) := by decide +kernel
theorem dX11_nights_245 : decode cX11_nights 245 = .ok (.iconst 3, 1) := by decide +kernel
theorem dX11_nights_246 : decode cX11_nights 246 = .ok (.invokevirtual 318, 3) := by decide +kernel
theorem dX11_nights_249 : decode cX11_nights 249 = .ok (.lconst 0, 1) := by decide +kernel
theorem dX11_nights_250 : decode cX11_nights 250 = .ok (.ldc2_w 272, 3) := by decide +kernel
theorem dX11_nights_253 : decode cX11_nights 253 = .ok (.invokestatic 322, 3) := by decide +kernel
theorem dX11_nights_256 : decode cX11_nights 256 = .ok (.lcmp, 1) := by decide +kernel
theorem dX11_nights_257 : decode cX11_nights 257 = .ok (.ifCond .lt 7, 3) := by decide +kernel
theorem dX11_nights_264 : decode cX11_nights 264 = .ok (.iconst 0, 1) := by decide +kernel
theorem dX11_nights_265 : decode cX11_nights 265 = .ok (.istore 11, 2) := by decide +kernel
theorem dX11_nights_260 : decode cX11_nights 260 = .ok (.iconst 1, 1) := by decide +kernel
theorem dX11_nights_261 : decode cX11_nights 261 = .ok (.goto 4, 3) := by decide +kernel
theorem dX11_nights_273 : decode cX11_nights 273 = .ok (.iload 7, 2) := by decide +kernel
theorem dX11_nights_275 : decode cX11_nights 275 = .ok (.iload 11, 2) := by decide +kernel
theorem dX11_nights_277 : decode cX11_nights 277 = .ok (.ifCond .eq 7, 3) := by decide +kernel
theorem dX11_nights_284 : decode cX11_nights 284 = .ok (.iconst 0, 1) := by decide +kernel
theorem dX11_nights_285 : decode cX11_nights 285 = .ok (.iadd, 1) := by decide +kernel
theorem dX11_nights_286 : decode cX11_nights 286 = .ok (.istore 7, 2) := by decide +kernel
theorem dX11_nights_288 : decode cX11_nights 288 = .ok (.iload 8, 2) := by decide +kernel
theorem dX11_nights_290 : decode cX11_nights 290 = .ok (.iload 11, 2) := by decide +kernel
theorem dX11_nights_292 : decode cX11_nights 292 = .ok (.ifCond .eq 10, 3) := by decide +kernel
theorem dX11_nights_302 : decode cX11_nights 302 = .ok (.iconst 0, 1) := by decide +kernel
theorem dX11_nights_303 : decode cX11_nights 303 = .ok (.iadd, 1) := by decide +kernel
theorem dX11_nights_304 : decode cX11_nights 304 = .ok (.istore 8, 2) := by decide +kernel
theorem dX11_nights_306 : decode cX11_nights 306 = .ok (.iinc 10 1, 3) := by decide +kernel
theorem dX11_nights_309 : decode cX11_nights 309 = .ok (.goto (-222), 3) := by decide +kernel
theorem dX11_nights_280 : decode cX11_nights 280 = .ok (.iconst 1, 1) := by decide +kernel
theorem dX11_nights_281 : decode cX11_nights 281 = .ok (.goto 4, 3) := by decide +kernel
theorem dX11_nights_295 : decode cX11_nights 295 = .ok (.aload_n 0, 1) := by decide +kernel
theorem dX11_nights_296 : decode cX11_nights 296 = .ok (.getfield 384, 3) := by decide +kernel
theorem dX11_nights_299 : decode cX11_nights 299 = .ok (.goto 4, 3) := by decide +kernel
theorem dX11_nights_312 : decode cX11_nights 312 = .ok (.aload_n 0, 1) := by decide +kernel
theorem dX11_nights_313 : decode cX11_nights 313 = .ok (.getfield 39, 3) := by decide +kernel
theorem dX11_nights_316 : decode cX11_nights 316 = .ok (.bipush 7, 2) := by decide +kernel
theorem dX11_nights_318 : decode cX11_nights 318 = .ok (.iload 6, 2) := by decide +kernel
theorem dX11_nights_320 : decode cX11_nights 320 = .ok (.iastore, 1) := by decide +kernel
theorem dX11_nights_321 : decode cX11_nights 321 = .ok (.iload 5, 2) := by decide +kernel
theorem dX11_nights_323 : decode cX11_nights 323 = .ok (.ifCond .ne 8, 3) := by decide +kernel
theorem dX11_nights_331 : decode cX11_nights 331 = .ok (.iload 5, 2) := by decide +kernel
theorem dX11_nights_333 : decode cX11_nights 333 = .ok (.iconst 1, 1) := by decide +kernel
theorem dX11_nights_334 : decode cX11_nights 334 = .ok (.if_icmp .ne 8, 3) := by decide +kernel
theorem dX11_nights_342 : decode cX11_nights 342 = .ok (.iload 9, 2) := by decide +kernel
theorem dX11_nights_337 : decode cX11_nights 337 = .ok (.iload 8, 2) := by decide +kernel
theorem dX11_nights_339 : decode cX11_nights 339 = .ok (.goto 5, 3) := by decide +kernel
theorem dX11_nights_326 : decode cX11_nights 326 = .ok (.iload 7, 2) := by decide +kernel
theorem dX11_nights_328 : decode cX11_nights 328 = .ok (.goto 16, 3) := by decide +kernel
theorem dX11_nights_344 : decode cX11_nights 344 = .ok (.ireturn, 1) := by decide +kernel

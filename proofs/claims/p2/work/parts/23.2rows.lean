theorem kX11_ahead_1 {a : Array Value} {s : State} (hts : ∀ w ∈ wsX11_ahead, w.before a s = true) : (.constantLong RX11 366 (240) : Cond).before a s = true := hts _ (List.mem_of_getElem? (i := 1) (by decide +kernel))
theorem kX11_ahead_2 {a : Array Value} {s : State} (hts : ∀ w ∈ wsX11_ahead, w.before a s = true) : (.fieldLink RX11 42 "SnowMulesModel" "kept" "[I" : Cond).before a s = true := hts _ (List.mem_of_getElem? (i := 2) (by decide +kernel))
theorem kX11_ahead_3 {a : Array Value} {s : State} (hts : ∀ w ∈ wsX11_ahead, w.before a s = true) : (.fieldLink RX11 39 "SnowMulesModel" "said" "[I" : Cond).before a s = true := hts _ (List.mem_of_getElem? (i := 3) (by decide +kernel))
theorem iX11_ahead_X11 : ∀ w ∈ wsX110, w ∈ wsX11_ahead := by decide +kernel
theorem dX11_ahead_0 : decode cX11_ahead 0 = .ok (.aload_n 0, 1) := by decide +kernel
theorem dX11_ahead_1 : decode cX11_ahead 1 = .ok (.iload_n 1, 1) := by decide +kernel
theorem dX11_ahead_2 : decode cX11_ahead 2 = .ok (.invokevirtual 363, 3) := by decide +kernel
theorem dX11_ahead_5 : decode cX11_ahead 5 = .ok (.ifCond .eq 25, 3) := by decide +kernel
theorem dX11_ahead_30 : decode cX11_ahead 30 = .ok (.iconst (-1), 1) := by decide +kernel
theorem dX11_ahead_31 : decode cX11_ahead 31 = .ok (.ireturn, 1) := by decide +kernel
theorem dX11_ahead_8 : decode cX11_ahead 8 = .ok (.iload_n 2, 1) := by decide +kernel
theorem dX11_ahead_9 : decode cX11_ahead 9 = .ok (.i2l, 1) := by decide +kernel
theorem dX11_ahead_10 : decode cX11_ahead 10 = .ok (.lconst 0, 1) := by decide +kernel
theorem dX11_ahead_11 : decode cX11_ahead 11 = .ok (.ldc2_w 366, 3) := by decide +kernel
theorem dX11_ahead_14 : decode cX11_ahead 14 = .ok (.invokestatic 118, 3) := by decide +kernel
theorem dX11_ahead_17 : decode cX11_ahead 17 = .ok (.ifCond .eq 13, 3) := by decide +kernel
theorem dX11_ahead_20 : decode cX11_ahead 20 = .ok (.iload_n 3, 1) := by decide +kernel
theorem dX11_ahead_21 : decode cX11_ahead 21 = .ok (.i2l, 1) := by decide +kernel
theorem dX11_ahead_22 : decode cX11_ahead 22 = .ok (.lconst 0, 1) := by decide +kernel
theorem dX11_ahead_23 : decode cX11_ahead 23 = .ok (.lconst 1, 1) := by decide +kernel
theorem dX11_ahead_24 : decode cX11_ahead 24 = .ok (.invokestatic 118, 3) := by decide +kernel
theorem dX11_ahead_27 : decode cX11_ahead 27 = .ok (.ifCond .ne 5, 3) := by decide +kernel
theorem dX11_ahead_32 : decode cX11_ahead 32 = .ok (.iconst 0, 1) := by decide +kernel
theorem dX11_ahead_33 : decode cX11_ahead 33 = .ok (.istore 4, 2) := by decide +kernel
theorem dX11_ahead_35 : decode cX11_ahead 35 = .ok (.iload 4, 2) := by decide +kernel
theorem dX11_ahead_37 : decode cX11_ahead 37 = .ok (.sipush 360, 3) := by decide +kernel
theorem dX11_ahead_40 : decode cX11_ahead 40 = .ok (.if_icmp .ge 23, 3) := by decide +kernel
theorem dX11_ahead_43 : decode cX11_ahead 43 = .ok (.aload_n 0, 1) := by decide +kernel
theorem dX11_ahead_44 : decode cX11_ahead 44 = .ok (.getfield 42, 3) := by decide +kernel
theorem dX11_ahead_47 : decode cX11_ahead 47 = .ok (.iload 4, 2) := by decide +kernel
theorem dX11_ahead_49 : decode cX11_ahead 49 = .ok (.aload_n 0, 1) := by decide +kernel
theorem dX11_ahead_50 : decode cX11_ahead 50 = .ok (.getfield 39, 3) := by decide +kernel
theorem dX11_ahead_53 : decode cX11_ahead 53 = .ok (.iload 4, 2) := by decide +kernel
theorem dX11_ahead_55 : decode cX11_ahead 55 = .ok (.iaload, 1) := by decide +kernel
theorem dX11_ahead_56 : decode cX11_ahead 56 = .ok (.iastore, 1) := by decide +kernel
theorem dX11_ahead_57 : decode cX11_ahead 57 = .ok (.iinc 4 1, 3) := by decide +kernel
theorem dX11_ahead_60 : decode cX11_ahead 60 = .ok (.goto (-25), 3) := by decide +kernel
theorem dX11_ahead_63 : decode cX11_ahead 63 = .ok (.iconst 0, 1) := by decide +kernel
theorem dX11_ahead_64 : decode cX11_ahead 64 = .ok (.istore 4, 2) := by decide +kernel
theorem dX11_ahead_66 : decode cX11_ahead 66 = .ok (.iload 4, 2) := by decide +kernel
theorem dX11_ahead_68 : decode cX11_ahead 68 = .ok (.iload_n 2, 1) := by decide +kernel
theorem dX11_ahead_69 : decode cX11_ahead 69 = .ok (.if_icmp .ge 14, 3) := by decide +kernel
theorem dX11_ahead_72 : decode cX11_ahead 72 = .ok (.aload_n 0, 1) := by decide +kernel
theorem dX11_ahead_73 : decode cX11_ahead 73 = .ok (.iload_n 1, 1) := by decide +kernel
theorem dX11_ahead_74 : decode cX11_ahead 74 = .ok (.invokevirtual 368, 3) := by decide +kernel
theorem dX11_ahead_77 : decode cX11_ahead 77 = .ok (.iinc 4 1, 3) := by decide +kernel
theorem dX11_ahead_80 : decode cX11_ahead 80 = .ok (.goto (-14), 3) := by decide +kernel
theorem dX11_ahead_83 : decode cX11_ahead 83 = .ok (.iconst 0, 1) := by decide +kernel
theorem dX11_ahead_84 : decode cX11_ahead 84 = .ok (.istore 4, 2) := by decide +kernel
theorem dX11_ahead_86 : decode cX11_ahead 86 = .ok (.iconst 0, 1) := by decide +kernel
theorem dX11_ahead_87 : decode cX11_ahead 87 = .ok (.istore 5, 2) := by decide +kernel
theorem dX11_ahead_89 : decode cX11_ahead 89 = .ok (.iconst 0, 1) := by decide +kernel
theorem dX11_ahead_90 : decode cX11_ahead 90 = .ok (.istore 6, 2) := by decide +kernel
theorem dX11_ahead_92 : decode cX11_ahead 92 = .ok (.iload 6, 2) := by decide +kernel
theorem dX11_ahead_94 : decode cX11_ahead 94 = .ok (.aload_n 0, 1) := by decide +kernel
theorem dX11_ahead_95 : decode cX11_ahead 95 = .ok (.getfield 39, 3) := by decide +kernel
theorem dX11_ahead_98 : decode cX11_ahead 98 = .ok (.iconst 2, 1) := by decide +kernel
theorem dX11_ahead_99 : decode cX11_ahead 99 = .ok (.iaload, 1) := by decide +kernel
theorem dX11_ahead_100 : decode cX11_ahead 100 = .ok (.if_icmp .ge 43, 3) := by decide +kernel
theorem dX11_ahead_103 : decode cX11_ahead 103 = .ok (.iload 4, 2) := by decide +kernel
theorem dX11_ahead_105 : decode cX11_ahead 105 = .ok (.aload_n 0, 1) := by decide +kernel
theorem dX11_ahead_106 : decode cX11_ahead 106 = .ok (.iload 6, 2) := by decide +kernel
theorem dX11_ahead_108 : decode cX11_ahead 108 = .ok (.iconst 4, 1) := by decide +kernel
theorem dX11_ahead_109 : decode cX11_ahead 109 = .ok (.invokevirtual 283, 3) := by decide +kernel
theorem dX11_ahead_112 : decode cX11_ahead 112 = .ok (.iadd, 1) := by decide +kernel
theorem dX11_ahead_113 : decode cX11_ahead 113 = .ok (.istore 4, 2) := by decide +kernel
theorem dX11_ahead_115 : decode cX11_ahead 115 = .ok (.iload 5, 2) := by decide +kernel
theorem dX11_ahead_117 : decode cX11_ahead 117 = .ok (.aload_n 0, 1) := by decide +kernel
theorem dX11_ahead_118 : decode cX11_ahead 118 = .ok (.iload 6, 2) := by decide +kernel
theorem dX11_ahead_120 : decode cX11_ahead 120 = .ok (.iconst 5, 1) := by decide +kernel
theorem dX11_ahead_121 : decode cX11_ahead 121 = .ok (.invokevirtual 283, 3) := by decide +kernel
theorem dX11_ahead_124 : decode cX11_ahead 124 = .ok (.bipush 13, 2) := by decide +kernel
theorem dX11_ahead_126 : decode cX11_ahead 126 = .ok (.if_icmp .ne 7, 3) := by decide +kernel
theorem dX11_ahead_133 : decode cX11_ahead 133 = .ok (.iconst 1, 1) := by decide +kernel
theorem dX11_ahead_134 : decode cX11_ahead 134 = .ok (.iadd, 1) := by decide +kernel
theorem dX11_ahead_135 : decode cX11_ahead 135 = .ok (.istore 5, 2) := by decide +kernel
theorem dX11_ahead_137 : decode cX11_ahead 137 = .ok (.iinc 6 1, 3) := by decide +kernel
theorem dX11_ahead_140 : decode cX11_ahead 140 = .ok (.goto (-48), 3) := by decide +kernel
theorem dX11_ahead_129 : decode cX11_ahead 129 = .ok (.iconst 0, 1) := by decide +kernel
theorem dX11_ahead_130 : decode cX11_ahead 130 = .ok (.goto 4, 3) := by decide +kernel
theorem dX11_ahead_143 : decode cX11_ahead 143 = .ok (.iconst 0, 1) := by decide +kernel
theorem dX11_ahead_144 : decode cX11_ahead 144 = .ok (.istore 6, 2) := by decide +kernel
theorem dX11_ahead_146 : decode cX11_ahead 146 = .ok (.iload 6, 2) := by decide +kernel
theorem dX11_ahead_148 : decode cX11_ahead 148 = .ok (.aload_n 0, 1) := by decide +kernel
theorem dX11_ahead_149 : decode cX11_ahead 149 = .ok (.getfield 39, 3) := by decide +kernel
theorem dX11_ahead_152 : decode cX11_ahead 152 = .ok (.iconst 0, 1) := by decide +kernel
theorem dX11_ahead_153 : decode cX11_ahead 153 = .ok (.iaload, 1) := by decide +kernel
theorem dX11_ahead_154 : decode cX11_ahead 154 = .ok (.if_icmp .ge 21, 3) := by decide +kernel
theorem dX11_ahead_157 : decode cX11_ahead 157 = .ok (.iload 4, 2) := by decide +kernel
theorem dX11_ahead_159 : decode cX11_ahead 159 = .ok (.aload_n 0, 1) := by decide +kernel
theorem dX11_ahead_160 : decode cX11_ahead 160 = .ok (.iload 6, 2) := by decide +kernel
theorem dX11_ahead_162 : decode cX11_ahead 162 = .ok (.iconst 3, 1) := by decide +kernel
theorem dX11_ahead_163 : decode cX11_ahead 163 = .ok (.invokevirtual 257, 3) := by decide +kernel
theorem dX11_ahead_166 : decode cX11_ahead 166 = .ok (.iadd, 1) := by decide +kernel
theorem dX11_ahead_167 : decode cX11_ahead 167 = .ok (.istore 4, 2) := by decide +kernel
theorem dX11_ahead_169 : decode cX11_ahead 169 = .ok (.iinc 6 1, 3) := by decide +kernel
theorem dX11_ahead_172 : decode cX11_ahead 172 = .ok (.goto (-26), 3) := by decide +kernel
theorem dX11_ahead_175 : decode cX11_ahead 175 = .ok (.iconst 0, 1) := by decide +kernel
theorem dX11_ahead_176 : decode cX11_ahead 176 = .ok (.istore 6, 2) := by decide +kernel
theorem dX11_ahead_178 : decode cX11_ahead 178 = .ok (.iload 6, 2) := by decide +kernel
theorem dX11_ahead_180 : decode cX11_ahead 180 = .ok (.sipush 360, 3) := by decide +kernel
theorem dX11_ahead_183 : decode cX11_ahead 183 = .ok (.if_icmp .ge 23, 3) := by decide +kernel
theorem dX11_ahead_186 : decode cX11_ahead 186 = .ok (.aload_n 0, 1) := by decide +kernel
theorem dX11_ahead_187 : decode cX11_ahead 187 = .ok (.getfield 39, 3) := by decide +kernel
theorem dX11_ahead_190 : decode cX11_ahead 190 = .ok (.iload 6, 2) := by decide +kernel
theorem dX11_ahead_192 : decode cX11_ahead 192 = .ok (.aload_n 0, 1) := by decide +kernel
theorem dX11_ahead_193 : decode cX11_ahead 193 = .ok (.getfield 42, 3) := by decide +kernel
theorem dX11_ahead_196 : decode cX11_ahead 196 = .ok (.iload 6, 2) := by decide +kernel
theorem dX11_ahead_198 : decode cX11_ahead 198 = .ok (.iaload, 1) := by decide +kernel
theorem dX11_ahead_199 : decode cX11_ahead 199 = .ok (.iastore, 1) := by decide +kernel
theorem dX11_ahead_200 : decode cX11_ahead 200 = .ok (.iinc 6 1, 3) := by decide +kernel
theorem dX11_ahead_203 : decode cX11_ahead 203 = .ok (.goto (-25), 3) := by decide +kernel
theorem dX11_ahead_206 : decode cX11_ahead 206 = .ok (.iload_n 3, 1) := by decide +kernel
theorem dX11_ahead_207 : decode cX11_ahead 207 = .ok (.ifCond .ne 8, 3) := by decide +kernel
theorem dX11_ahead_215 : decode cX11_ahead 215 = .ok (.iload 5, 2) := by decide +kernel
theorem dX11_ahead_217 : decode cX11_ahead 217 = .ok (.ireturn, 1) := by decide +kernel
theorem dX11_ahead_210 : decode cX11_ahead 210 = .ok (.iload 4, 2) := by decide +kernel
theorem dX11_ahead_212 : decode cX11_ahead 212 = .ok (.goto 5, 3) := by decide +kernel

theorem kX11_all_1 {a : Array Value} {s : State} (hts : ∀ w ∈ wsX11_all, w.before a s = true) : (.constantLong RX11 456 (6) : Cond).before a s = true := hts _ (List.mem_of_getElem? (i := 1) (by decide +kernel))
theorem kX11_all_2 {a : Array Value} {s : State} (hts : ∀ w ∈ wsX11_all, w.before a s = true) : (.fieldLink RX11 39 "SnowMulesModel" "said" "[I" : Cond).before a s = true := hts _ (List.mem_of_getElem? (i := 2) (by decide +kernel))
theorem kX11_all_3 {a : Array Value} {s : State} (hts : ∀ w ∈ wsX11_all, w.before a s = true) : (.fieldLink RX11 69 "SnowMulesModel" "servers" "[I" : Cond).before a s = true := hts _ (List.mem_of_getElem? (i := 3) (by decide +kernel))
theorem iX11_all_X11 : ∀ w ∈ wsX110, w ∈ wsX11_all := by decide +kernel
theorem dX11_all_0 : decode cX11_all 0 = .ok (.aload_n 0, 1) := by decide +kernel
theorem dX11_all_1 : decode cX11_all 1 = .ok (.iload_n 1, 1) := by decide +kernel
theorem dX11_all_2 : decode cX11_all 2 = .ok (.invokevirtual 363, 3) := by decide +kernel
theorem dX11_all_5 : decode cX11_all 5 = .ok (.ifCond .eq 15, 3) := by decide +kernel
theorem dX11_all_20 : decode cX11_all 20 = .ok (.iconst (-1), 1) := by decide +kernel
theorem dX11_all_21 : decode cX11_all 21 = .ok (.ireturn, 1) := by decide +kernel
theorem dX11_all_8 : decode cX11_all 8 = .ok (.iload_n 2, 1) := by decide +kernel
theorem dX11_all_9 : decode cX11_all 9 = .ok (.i2l, 1) := by decide +kernel
theorem dX11_all_10 : decode cX11_all 10 = .ok (.lconst 0, 1) := by decide +kernel
theorem dX11_all_11 : decode cX11_all 11 = .ok (.ldc2_w 456, 3) := by decide +kernel
theorem dX11_all_14 : decode cX11_all 14 = .ok (.invokestatic 118, 3) := by decide +kernel
theorem dX11_all_17 : decode cX11_all 17 = .ok (.ifCond .ne 5, 3) := by decide +kernel
theorem dX11_all_22 : decode cX11_all 22 = .ok (.iload_n 2, 1) := by decide +kernel
theorem dX11_all_23 : decode cX11_all 23 = .ok (.aload_n 0, 1) := by decide +kernel
theorem dX11_all_24 : decode cX11_all 24 = .ok (.getfield 39, 3) := by decide +kernel
theorem dX11_all_27 : decode cX11_all 27 = .ok (.iconst 3, 1) := by decide +kernel
theorem dX11_all_28 : decode cX11_all 28 = .ok (.iaload, 1) := by decide +kernel
theorem dX11_all_29 : decode cX11_all 29 = .ok (.if_icmp .le 6, 3) := by decide +kernel
theorem dX11_all_35 : decode cX11_all 35 = .ok (.iconst 0, 1) := by decide +kernel
theorem dX11_all_36 : decode cX11_all 36 = .ok (.istore_n 3, 1) := by decide +kernel
theorem dX11_all_37 : decode cX11_all 37 = .ok (.iload_n 3, 1) := by decide +kernel
theorem dX11_all_38 : decode cX11_all 38 = .ok (.bipush 6, 2) := by decide +kernel
theorem dX11_all_40 : decode cX11_all 40 = .ok (.if_icmp .ge 74, 3) := by decide +kernel
theorem dX11_all_43 : decode cX11_all 43 = .ok (.aload_n 0, 1) := by decide +kernel
theorem dX11_all_44 : decode cX11_all 44 = .ok (.getfield 69, 3) := by decide +kernel
theorem dX11_all_47 : decode cX11_all 47 = .ok (.iload_n 3, 1) := by decide +kernel
theorem dX11_all_48 : decode cX11_all 48 = .ok (.iconst 0, 1) := by decide +kernel
theorem dX11_all_49 : decode cX11_all 49 = .ok (.iastore, 1) := by decide +kernel
theorem dX11_all_50 : decode cX11_all 50 = .ok (.iconst 0, 1) := by decide +kernel
theorem dX11_all_51 : decode cX11_all 51 = .ok (.istore 4, 2) := by decide +kernel
theorem dX11_all_53 : decode cX11_all 53 = .ok (.iload 4, 2) := by decide +kernel
theorem dX11_all_55 : decode cX11_all 55 = .ok (.aload_n 0, 1) := by decide +kernel
theorem dX11_all_56 : decode cX11_all 56 = .ok (.getfield 39, 3) := by decide +kernel
theorem dX11_all_59 : decode cX11_all 59 = .ok (.iconst 2, 1) := by decide +kernel
theorem dX11_all_60 : decode cX11_all 60 = .ok (.iaload, 1) := by decide +kernel
theorem dX11_all_61 : decode cX11_all 61 = .ok (.if_icmp .ge 47, 3) := by decide +kernel
theorem dX11_all_64 : decode cX11_all 64 = .ok (.iload_n 3, 1) := by decide +kernel
theorem dX11_all_65 : decode cX11_all 65 = .ok (.aload_n 0, 1) := by decide +kernel
theorem dX11_all_66 : decode cX11_all 66 = .ok (.getfield 39, 3) := by decide +kernel
theorem dX11_all_69 : decode cX11_all 69 = .ok (.iconst 3, 1) := by decide +kernel
theorem dX11_all_70 : decode cX11_all 70 = .ok (.iaload, 1) := by decide +kernel
theorem dX11_all_71 : decode cX11_all 71 = .ok (.if_icmp .ge 37, 3) := by decide +kernel
theorem dX11_all_74 : decode cX11_all 74 = .ok (.aload_n 0, 1) := by decide +kernel
theorem dX11_all_75 : decode cX11_all 75 = .ok (.getfield 69, 3) := by decide +kernel
theorem dX11_all_78 : decode cX11_all 78 = .ok (.iload_n 3, 1) := by decide +kernel
theorem dX11_all_79 : decode cX11_all 79 = .ok (.dup2, 1) := by decide +kernel
theorem dX11_all_80 : decode cX11_all 80 = .ok (.iaload, 1) := by decide +kernel
theorem dX11_all_81 : decode cX11_all 81 = .ok (.aload_n 0, 1) := by decide +kernel
theorem dX11_all_82 : decode cX11_all 82 = .ok (.iload_n 1, 1) := by decide +kernel
theorem dX11_all_83 : decode cX11_all 83 = .ok (.iload 4, 2) := by decide +kernel
theorem dX11_all_85 : decode cX11_all 85 = .ok (.iload_n 3, 1) := by decide +kernel
theorem dX11_all_86 : decode cX11_all 86 = .ok (.invokevirtual 447, 3) := by decide +kernel
theorem dX11_all_89 : decode cX11_all 89 = .ok (.ifCond .lt 10, 3) := by decide +kernel
theorem dX11_all_99 : decode cX11_all 99 = .ok (.iconst 0, 1) := by decide +kernel
theorem dX11_all_100 : decode cX11_all 100 = .ok (.ior, 1) := by decide +kernel
theorem dX11_all_101 : decode cX11_all 101 = .ok (.iastore, 1) := by decide +kernel
theorem dX11_all_102 : decode cX11_all 102 = .ok (.iinc 4 1, 3) := by decide +kernel
theorem dX11_all_105 : decode cX11_all 105 = .ok (.goto (-52), 3) := by decide +kernel
theorem dX11_all_92 : decode cX11_all 92 = .ok (.iconst 1, 1) := by decide +kernel
theorem dX11_all_93 : decode cX11_all 93 = .ok (.iload 4, 2) := by decide +kernel
theorem dX11_all_95 : decode cX11_all 95 = .ok (.ishl, 1) := by decide +kernel
theorem dX11_all_96 : decode cX11_all 96 = .ok (.goto 4, 3) := by decide +kernel
theorem dX11_all_108 : decode cX11_all 108 = .ok (.iinc 3 1, 3) := by decide +kernel
theorem dX11_all_111 : decode cX11_all 111 = .ok (.goto (-74), 3) := by decide +kernel
theorem dX11_all_32 : decode cX11_all 32 = .ok (.bipush (-2), 2) := by decide +kernel
theorem dX11_all_34 : decode cX11_all 34 = .ok (.ireturn, 1) := by decide +kernel
theorem dX11_all_114 : decode cX11_all 114 = .ok (.aload_n 0, 1) := by decide +kernel
theorem dX11_all_115 : decode cX11_all 115 = .ok (.iconst 0, 1) := by decide +kernel
theorem dX11_all_116 : decode cX11_all 116 = .ok (.iconst 0, 1) := by decide +kernel
theorem dX11_all_117 : decode cX11_all 117 = .ok (.invokevirtual 458, 3) := by decide +kernel
theorem dX11_all_120 : decode cX11_all 120 = .ok (.istore_n 3, 1) := by decide +kernel
theorem dX11_all_121 : decode cX11_all 121 = .ok (.iload_n 2, 1) := by decide +kernel
theorem dX11_all_122 : decode cX11_all 122 = .ok (.ifCond .ne 5, 3) := by decide +kernel
theorem dX11_all_127 : decode cX11_all 127 = .ok (.iconst 0, 1) := by decide +kernel
theorem dX11_all_128 : decode cX11_all 128 = .ok (.istore 4, 2) := by decide +kernel
theorem dX11_all_130 : decode cX11_all 130 = .ok (.iload_n 3, 1) := by decide +kernel
theorem dX11_all_131 : decode cX11_all 131 = .ok (.istore 5, 2) := by decide +kernel
theorem dX11_all_133 : decode cX11_all 133 = .ok (.iconst (-1), 1) := by decide +kernel
theorem dX11_all_134 : decode cX11_all 134 = .ok (.istore 6, 2) := by decide +kernel
theorem dX11_all_136 : decode cX11_all 136 = .ok (.iconst 0, 1) := by decide +kernel
theorem dX11_all_137 : decode cX11_all 137 = .ok (.istore 7, 2) := by decide +kernel
theorem dX11_all_139 : decode cX11_all 139 = .ok (.iload 7, 2) := by decide +kernel
theorem dX11_all_141 : decode cX11_all 141 = .ok (.iload_n 2, 1) := by decide +kernel
theorem dX11_all_142 : decode cX11_all 142 = .ok (.if_icmp .ge 122, 3) := by decide +kernel
theorem dX11_all_145 : decode cX11_all 145 = .ok (.aload_n 0, 1) := by decide +kernel
theorem dX11_all_146 : decode cX11_all 146 = .ok (.getfield 39, 3) := by decide +kernel
theorem dX11_all_149 : decode cX11_all 149 = .ok (.sipush 312, 3) := by decide +kernel
theorem dX11_all_152 : decode cX11_all 152 = .ok (.iconst 4, 1) := by decide +kernel
theorem dX11_all_153 : decode cX11_all 153 = .ok (.iload 7, 2) := by decide +kernel
theorem dX11_all_155 : decode cX11_all 155 = .ok (.imul, 1) := by decide +kernel
theorem dX11_all_156 : decode cX11_all 156 = .ok (.iadd, 1) := by decide +kernel
theorem dX11_all_157 : decode cX11_all 157 = .ok (.iconst 3, 1) := by decide +kernel
theorem dX11_all_158 : decode cX11_all 158 = .ok (.iadd, 1) := by decide +kernel
theorem dX11_all_159 : decode cX11_all 159 = .ok (.iaload, 1) := by decide +kernel
theorem dX11_all_160 : decode cX11_all 160 = .ok (.istore 8, 2) := by decide +kernel
theorem dX11_all_162 : decode cX11_all 162 = .ok (.iconst (-1), 1) := by decide +kernel
theorem dX11_all_163 : decode cX11_all 163 = .ok (.istore 6, 2) := by decide +kernel
theorem dX11_all_165 : decode cX11_all 165 = .ok (.iconst 0, 1) := by decide +kernel
theorem dX11_all_166 : decode cX11_all 166 = .ok (.istore 9, 2) := by decide +kernel
theorem dX11_all_168 : decode cX11_all 168 = .ok (.iload 9, 2) := by decide +kernel
theorem dX11_all_170 : decode cX11_all 170 = .ok (.bipush 16, 2) := by decide +kernel
theorem dX11_all_172 : decode cX11_all 172 = .ok (.if_icmp .ge 62, 3) := by decide +kernel
theorem dX11_all_175 : decode cX11_all 175 = .ok (.iload 6, 2) := by decide +kernel
theorem dX11_all_177 : decode cX11_all 177 = .ok (.ifCond .ge 57, 3) := by decide +kernel
theorem dX11_all_180 : decode cX11_all 180 = .ok (.aload_n 0, 1) := by decide +kernel
theorem dX11_all_181 : decode cX11_all 181 = .ok (.getfield 69, 3) := by decide +kernel
theorem dX11_all_184 : decode cX11_all 184 = .ok (.iload 7, 2) := by decide +kernel
theorem dX11_all_186 : decode cX11_all 186 = .ok (.iaload, 1) := by decide +kernel
theorem dX11_all_187 : decode cX11_all 187 = .ok (.iload 4, 2) := by decide +kernel
theorem dX11_all_189 : decode cX11_all 189 = .ok (.iconst (-1), 1) := by decide +kernel
theorem dX11_all_190 : decode cX11_all 190 = .ok (.ixor, 1) := by decide +kernel
theorem dX11_all_191 : decode cX11_all 191 = .ok (.iand, 1) := by decide +kernel
theorem dX11_all_192 : decode cX11_all 192 = .ok (.iload 9, 2) := by decide +kernel
theorem dX11_all_194 : decode cX11_all 194 = .ok (.ishr, 1) := by decide +kernel
theorem dX11_all_195 : decode cX11_all 195 = .ok (.iconst 1, 1) := by decide +kernel
theorem dX11_all_196 : decode cX11_all 196 = .ok (.iand, 1) := by decide +kernel
theorem dX11_all_197 : decode cX11_all 197 = .ok (.iconst 1, 1) := by decide +kernel
theorem dX11_all_198 : decode cX11_all 198 = .ok (.if_icmp .ne 30, 3) := by decide +kernel
theorem dX11_all_228 : decode cX11_all 228 = .ok (.iinc 9 1, 3) := by decide +kernel
theorem dX11_all_231 : decode cX11_all 231 = .ok (.goto (-63), 3) := by decide +kernel
theorem dX11_all_201 : decode cX11_all 201 = .ok (.iload 8, 2) := by decide +kernel
theorem dX11_all_203 : decode cX11_all 203 = .ok (.aload_n 0, 1) := by decide +kernel
theorem dX11_all_204 : decode cX11_all 204 = .ok (.iload 7, 2) := by decide +kernel
theorem dX11_all_206 : decode cX11_all 206 = .ok (.iconst 1, 1) := by decide +kernel
theorem dX11_all_207 : decode cX11_all 207 = .ok (.iadd, 1) := by decide +kernel
theorem dX11_all_208 : decode cX11_all 208 = .ok (.iload 4, 2) := by decide +kernel
theorem dX11_all_210 : decode cX11_all 210 = .ok (.iconst 1, 1) := by decide +kernel
theorem dX11_all_211 : decode cX11_all 211 = .ok (.iload 9, 2) := by decide +kernel
theorem dX11_all_213 : decode cX11_all 213 = .ok (.ishl, 1) := by decide +kernel
theorem dX11_all_214 : decode cX11_all 214 = .ok (.ior, 1) := by decide +kernel
theorem dX11_all_215 : decode cX11_all 215 = .ok (.invokevirtual 458, 3) := by decide +kernel
theorem dX11_all_218 : decode cX11_all 218 = .ok (.iadd, 1) := by decide +kernel
theorem dX11_all_219 : decode cX11_all 219 = .ok (.iload 5, 2) := by decide +kernel
theorem dX11_all_221 : decode cX11_all 221 = .ok (.if_icmp .ne 7, 3) := by decide +kernel
theorem dX11_all_224 : decode cX11_all 224 = .ok (.iload 9, 2) := by decide +kernel
theorem dX11_all_226 : decode cX11_all 226 = .ok (.istore 6, 2) := by decide +kernel
theorem dX11_all_264 : decode cX11_all 264 = .ok (.iload 6, 2) := by decide +kernel
theorem dX11_all_266 : decode cX11_all 266 = .ok (.ifCond .ge 8, 3) := by decide +kernel
theorem dX11_all_269 : decode cX11_all 269 = .ok (.bipush 16, 2) := by decide +kernel
theorem dX11_all_271 : decode cX11_all 271 = .ok (.goto 5, 3) := by decide +kernel
theorem dX11_all_276 : decode cX11_all 276 = .ok (.ireturn, 1) := by decide +kernel
theorem dX11_all_125 : decode cX11_all 125 = .ok (.iload_n 3, 1) := by decide +kernel
theorem dX11_all_126 : decode cX11_all 126 = .ok (.ireturn, 1) := by decide +kernel
theorem dX11_all_234 : decode cX11_all 234 = .ok (.iload 6, 2) := by decide +kernel
theorem dX11_all_236 : decode cX11_all 236 = .ok (.ifCond .ge 6, 3) := by decide +kernel
theorem dX11_all_242 : decode cX11_all 242 = .ok (.iload 4, 2) := by decide +kernel
theorem dX11_all_244 : decode cX11_all 244 = .ok (.iconst 1, 1) := by decide +kernel
theorem dX11_all_245 : decode cX11_all 245 = .ok (.iload 6, 2) := by decide +kernel
theorem dX11_all_247 : decode cX11_all 247 = .ok (.ishl, 1) := by decide +kernel
theorem dX11_all_248 : decode cX11_all 248 = .ok (.ior, 1) := by decide +kernel
theorem dX11_all_249 : decode cX11_all 249 = .ok (.istore 4, 2) := by decide +kernel
theorem dX11_all_251 : decode cX11_all 251 = .ok (.iload 5, 2) := by decide +kernel
theorem dX11_all_253 : decode cX11_all 253 = .ok (.iload 8, 2) := by decide +kernel
theorem dX11_all_255 : decode cX11_all 255 = .ok (.isub, 1) := by decide +kernel
theorem dX11_all_256 : decode cX11_all 256 = .ok (.istore 5, 2) := by decide +kernel
theorem dX11_all_258 : decode cX11_all 258 = .ok (.iinc 7 1, 3) := by decide +kernel
theorem dX11_all_261 : decode cX11_all 261 = .ok (.goto (-122), 3) := by decide +kernel
theorem dX11_all_239 : decode cX11_all 239 = .ok (.goto 19, 3) := by decide +kernel
theorem dX11_all_274 : decode cX11_all 274 = .ok (.iload 6, 2) := by decide +kernel

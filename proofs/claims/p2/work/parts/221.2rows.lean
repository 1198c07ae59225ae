theorem kX11_guess_1 {a : Array Value} {s : State} (hts : ∀ w ∈ wsX11_guess, w.before a s = true) : (.constantLong RX11 316 (12) : Cond).before a s = true := hts _ (List.mem_of_getElem? (i := 1) (by decide +kernel))
theorem kX11_guess_2 {a : Array Value} {s : State} (hts : ∀ w ∈ wsX11_guess, w.before a s = true) : (.constantLong RX11 289 (99999) : Cond).before a s = true := hts _ (List.mem_of_getElem? (i := 2) (by decide +kernel))
theorem kX11_guess_3 {a : Array Value} {s : State} (hts : ∀ w ∈ wsX11_guess, w.before a s = true) : (.constantLong RX11 437 (2) : Cond).before a s = true := hts _ (List.mem_of_getElem? (i := 3) (by decide +kernel))
theorem kX11_guess_4 {a : Array Value} {s : State} (hts : ∀ w ∈ wsX11_guess, w.before a s = true) : (.fieldLink RX11 39 "SnowMulesModel" "said" "[I" : Cond).before a s = true := hts _ (List.mem_of_getElem? (i := 4) (by decide +kernel))
theorem kX11_guess_5 {a : Array Value} {s : State} (hts : ∀ w ∈ wsX11_guess, w.before a s = true) : (.fieldLink RX11 66 "SnowMulesModel" "waited" "[I" : Cond).before a s = true := hts _ (List.mem_of_getElem? (i := 5) (by decide +kernel))
theorem kX11_guess_6 {a : Array Value} {s : State} (hts : ∀ w ∈ wsX11_guess, w.before a s = true) : (.fieldLink RX11 384 "SnowMulesModel" "goDrops" "I" : Cond).before a s = true := hts _ (List.mem_of_getElem? (i := 6) (by decide +kernel))
theorem iX11_guess_X11 : ∀ w ∈ wsX110, w ∈ wsX11_guess := by decide +kernel
theorem dX11_guess_0 : decode cX11_guess 0 = .ok (.aload_n 0, 1) := by decide +kernel
theorem dX11_guess_1 : decode cX11_guess 1 = .ok (.iload_n 1, 1) := by decide +kernel
theorem dX11_guess_2 : decode cX11_guess 2 = .ok (.iload_n 2, 1) := by decide +kernel
theorem dX11_guess_3 : decode cX11_guess 3 = .ok (.iload_n 3, 1) := by decide +kernel
theorem dX11_guess_4 : decode cX11_guess 4 = .ok (.iload 4, 2) := by decide +kernel
theorem dX11_guess_6 : decode cX11_guess 6 = .ok (.iload 5, 2) := by decide +kernel
theorem dX11_guess_8 : decode cX11_guess 8 = .ok (.invokevirtual 403, 3) := by decide +kernel
theorem dX11_guess_11 : decode cX11_guess 11 = .ok (.ifCond .eq 67, 3) := by decide +kernel
theorem dX11_guess_78 : decode cX11_guess 78 = .ok (.iconst (-1), 1) := by decide +kernel
theorem dX11_guess_79 : decode cX11_guess 79 = .ok (.ireturn, 1) := by decide +kernel
theorem dX11_guess_14 : decode cX11_guess 14 = .ok (.iload 6, 2) := by decide +kernel
theorem dX11_guess_16 : decode cX11_guess 16 = .ok (.i2l, 1) := by decide +kernel
theorem dX11_guess_17 : decode cX11_guess 17 = .ok (.lconst 0, 1) := by decide +kernel
theorem dX11_guess_18 : decode cX11_guess 18 = .ok (.ldc2_w 316, 3) := by decide +kernel
theorem dX11_guess_21 : decode cX11_guess 21 = .ok (.invokestatic 118, 3) := by decide +kernel
theorem dX11_guess_24 : decode cX11_guess 24 = .ok (.ifCond .eq 54, 3) := by decide +kernel
theorem dX11_guess_27 : decode cX11_guess 27 = .ok (.iload 7, 2) := by decide +kernel
theorem dX11_guess_29 : decode cX11_guess 29 = .ok (.i2l, 1) := by decide +kernel
theorem dX11_guess_30 : decode cX11_guess 30 = .ok (.lconst 0, 1) := by decide +kernel
theorem dX11_guess_31 : decode cX11_guess 31 = .ok (.ldc2_w 289, 3) := by decide +kernel
theorem dX11_guess_34 : decode cX11_guess 34 = .ok (.invokestatic 118, 3) := by decide +kernel
theorem dX11_guess_37 : decode cX11_guess 37 = .ok (.ifCond .eq 41, 3) := by decide +kernel
theorem dX11_guess_40 : decode cX11_guess 40 = .ok (.iload 9, 2) := by decide +kernel
theorem dX11_guess_42 : decode cX11_guess 42 = .ok (.i2l, 1) := by decide +kernel
theorem dX11_guess_43 : decode cX11_guess 43 = .ok (.lconst 0, 1) := by decide +kernel
theorem dX11_guess_44 : decode cX11_guess 44 = .ok (.ldc2_w 437, 3) := by decide +kernel
theorem dX11_guess_47 : decode cX11_guess 47 = .ok (.invokestatic 118, 3) := by decide +kernel
theorem dX11_guess_50 : decode cX11_guess 50 = .ok (.ifCond .eq 28, 3) := by decide +kernel
theorem dX11_guess_53 : decode cX11_guess 53 = .ok (.iload 9, 2) := by decide +kernel
theorem dX11_guess_55 : decode cX11_guess 55 = .ok (.ifCond .le 25, 3) := by decide +kernel
theorem dX11_guess_80 : decode cX11_guess 80 = .ok (.aload_n 0, 1) := by decide +kernel
theorem dX11_guess_81 : decode cX11_guess 81 = .ok (.getfield 39, 3) := by decide +kernel
theorem dX11_guess_84 : decode cX11_guess 84 = .ok (.bipush 9, 2) := by decide +kernel
theorem dX11_guess_86 : decode cX11_guess 86 = .ok (.iaload, 1) := by decide +kernel
theorem dX11_guess_87 : decode cX11_guess 87 = .ok (.ifCond .ne 20, 3) := by decide +kernel
theorem dX11_guess_107 : decode cX11_guess 107 = .ok (.iconst 0, 1) := by decide +kernel
theorem dX11_guess_108 : decode cX11_guess 108 = .ok (.istore 10, 2) := by decide +kernel
theorem dX11_guess_110 : decode cX11_guess 110 = .ok (.iload 10, 2) := by decide +kernel
theorem dX11_guess_112 : decode cX11_guess 112 = .ok (.aload_n 0, 1) := by decide +kernel
theorem dX11_guess_113 : decode cX11_guess 113 = .ok (.getfield 39, 3) := by decide +kernel
theorem dX11_guess_116 : decode cX11_guess 116 = .ok (.bipush 9, 2) := by decide +kernel
theorem dX11_guess_118 : decode cX11_guess 118 = .ok (.iaload, 1) := by decide +kernel
theorem dX11_guess_119 : decode cX11_guess 119 = .ok (.if_icmp .ge 17, 3) := by decide +kernel
theorem dX11_guess_122 : decode cX11_guess 122 = .ok (.aload_n 0, 1) := by decide +kernel
theorem dX11_guess_123 : decode cX11_guess 123 = .ok (.getfield 66, 3) := by decide +kernel
theorem dX11_guess_126 : decode cX11_guess 126 = .ok (.iload 10, 2) := by decide +kernel
theorem dX11_guess_128 : decode cX11_guess 128 = .ok (.iconst 0, 1) := by decide +kernel
theorem dX11_guess_129 : decode cX11_guess 129 = .ok (.iastore, 1) := by decide +kernel
theorem dX11_guess_130 : decode cX11_guess 130 = .ok (.iinc 10 1, 3) := by decide +kernel
theorem dX11_guess_133 : decode cX11_guess 133 = .ok (.goto (-23), 3) := by decide +kernel
theorem dX11_guess_136 : decode cX11_guess 136 = .ok (.aload_n 0, 1) := by decide +kernel
theorem dX11_guess_137 : decode cX11_guess 137 = .ok (.getfield 66, 3) := by decide +kernel
theorem dX11_guess_140 : decode cX11_guess 140 = .ok (.aload_n 0, 1) := by decide +kernel
theorem dX11_guess_141 : decode cX11_guess 141 = .ok (.getfield 39, 3) := by decide +kernel
theorem dX11_guess_144 : decode cX11_guess 144 = .ok (.bipush 9, 2) := by decide +kernel
theorem dX11_guess_146 : decode cX11_guess 146 = .ok (.iaload, 1) := by decide +kernel
theorem dX11_guess_147 : decode cX11_guess 147 = .ok (.iconst 1, 1) := by decide +kernel
theorem dX11_guess_148 : decode cX11_guess 148 = .ok (.isub, 1) := by decide +kernel
theorem dX11_guess_149 : decode cX11_guess 149 = .ok (.iload 6, 2) := by decide +kernel
theorem dX11_guess_151 : decode cX11_guess 151 = .ok (.iastore, 1) := by decide +kernel
theorem dX11_guess_152 : decode cX11_guess 152 = .ok (.iconst 0, 1) := by decide +kernel
theorem dX11_guess_153 : decode cX11_guess 153 = .ok (.istore 10, 2) := by decide +kernel
theorem dX11_guess_155 : decode cX11_guess 155 = .ok (.iconst 0, 1) := by decide +kernel
theorem dX11_guess_156 : decode cX11_guess 156 = .ok (.istore 11, 2) := by decide +kernel
theorem dX11_guess_158 : decode cX11_guess 158 = .ok (.iconst 0, 1) := by decide +kernel
theorem dX11_guess_159 : decode cX11_guess 159 = .ok (.istore 12, 2) := by decide +kernel
theorem dX11_guess_161 : decode cX11_guess 161 = .ok (.iconst 1, 1) := by decide +kernel
theorem dX11_guess_162 : decode cX11_guess 162 = .ok (.istore 13, 2) := by decide +kernel
theorem dX11_guess_164 : decode cX11_guess 164 = .ok (.iload 13, 2) := by decide +kernel
theorem dX11_guess_166 : decode cX11_guess 166 = .ok (.ifCond .eq 163, 3) := by decide +kernel
theorem dX11_guess_169 : decode cX11_guess 169 = .ok (.aload_n 0, 1) := by decide +kernel
theorem dX11_guess_170 : decode cX11_guess 170 = .ok (.aload_n 0, 1) := by decide +kernel
theorem dX11_guess_171 : decode cX11_guess 171 = .ok (.getfield 39, 3) := by decide +kernel
theorem dX11_guess_174 : decode cX11_guess 174 = .ok (.bipush 8, 2) := by decide +kernel
theorem dX11_guess_176 : decode cX11_guess 176 = .ok (.iaload, 1) := by decide +kernel
theorem dX11_guess_177 : decode cX11_guess 177 = .ok (.iload_n 3, 1) := by decide +kernel
theorem dX11_guess_178 : decode cX11_guess 178 = .ok (.iload_n 2, 1) := by decide +kernel
theorem dX11_guess_179 : decode cX11_guess 179 = .ok (.iload 4, 2) := by decide +kernel
theorem dX11_guess_181 : decode cX11_guess 181 = .ok (.iload 5, 2) := by decide +kernel
theorem dX11_guess_183 : decode cX11_guess 183 = .ok (.invokevirtual 407, 3) := by decide +kernel
theorem dX11_guess_186 : decode cX11_guess 186 = .ok (.iconst 0, 1) := by decide +kernel
theorem dX11_guess_187 : decode cX11_guess 187 = .ok (.istore 14, 2) := by decide +kernel
theorem dX11_guess_189 : decode cX11_guess 189 = .ok (.iload 14, 2) := by decide +kernel
theorem dX11_guess_191 : decode cX11_guess 191 = .ok (.aload_n 0, 1) := by decide +kernel
theorem dX11_guess_192 : decode cX11_guess 192 = .ok (.getfield 39, 3) := by decide +kernel
theorem dX11_guess_195 : decode cX11_guess 195 = .ok (.bipush 9, 2) := by decide +kernel
theorem dX11_guess_197 : decode cX11_guess 197 = .ok (.iaload, 1) := by decide +kernel
theorem dX11_guess_198 : decode cX11_guess 198 = .ok (.if_icmp .ge 50, 3) := by decide +kernel
theorem dX11_guess_201 : decode cX11_guess 201 = .ok (.iconst 0, 1) := by decide +kernel
theorem dX11_guess_202 : decode cX11_guess 202 = .ok (.istore 15, 2) := by decide +kernel
theorem dX11_guess_204 : decode cX11_guess 204 = .ok (.iload 15, 2) := by decide +kernel
theorem dX11_guess_206 : decode cX11_guess 206 = .ok (.aload_n 0, 1) := by decide +kernel
theorem dX11_guess_207 : decode cX11_guess 207 = .ok (.getfield 66, 3) := by decide +kernel
theorem dX11_guess_210 : decode cX11_guess 210 = .ok (.iload 14, 2) := by decide +kernel
theorem dX11_guess_212 : decode cX11_guess 212 = .ok (.iaload, 1) := by decide +kernel
theorem dX11_guess_213 : decode cX11_guess 213 = .ok (.if_icmp .ge 14, 3) := by decide +kernel
theorem dX11_guess_216 : decode cX11_guess 216 = .ok (.aload_n 0, 1) := by decide +kernel
theorem dX11_guess_217 : decode cX11_guess 217 = .ok (.iload_n 1, 1) := by decide +kernel
theorem dX11_guess_218 : decode cX11_guess 218 = .ok (.invokevirtual 439, 3) := by decide +kernel
theorem dX11_guess_221 : decode cX11_guess 221 = .ok (.iinc 15 1, 3) := by decide +kernel
theorem dX11_guess_224 : decode cX11_guess 224 = .ok (.goto (-20), 3) := by decide +kernel
theorem dX11_guess_227 : decode cX11_guess 227 = .ok (.aload_n 0, 1) := by decide +kernel
theorem dX11_guess_228 : decode cX11_guess 228 = .ok (.iload_n 1, 1) := by decide +kernel
theorem dX11_guess_229 : decode cX11_guess 229 = .ok (.aload_n 0, 1) := by decide +kernel
theorem dX11_guess_230 : decode cX11_guess 230 = .ok (.getfield 39, 3) := by decide +kernel
theorem dX11_guess_233 : decode cX11_guess 233 = .ok (.bipush 10, 2) := by decide +kernel
theorem dX11_guess_235 : decode cX11_guess 235 = .ok (.iload 14, 2) := by decide +kernel
theorem dX11_guess_237 : decode cX11_guess 237 = .ok (.iadd, 1) := by decide +kernel
theorem dX11_guess_238 : decode cX11_guess 238 = .ok (.iaload, 1) := by decide +kernel
theorem dX11_guess_239 : decode cX11_guess 239 = .ok (.invokevirtual 410, 3) := by decide +kernel
theorem dX11_guess_242 : decode cX11_guess 242 = .ok (.iinc 14 1, 3) := by decide +kernel
theorem dX11_guess_245 : decode cX11_guess 245 = .ok (.goto (-56), 3) := by decide +kernel
theorem dX11_guess_248 : decode cX11_guess 248 = .ok (.aload_n 0, 1) := by decide +kernel
theorem dX11_guess_249 : decode cX11_guess 249 = .ok (.getfield 384, 3) := by decide +kernel
theorem dX11_guess_252 : decode cX11_guess 252 = .ok (.iload 7, 2) := by decide +kernel
theorem dX11_guess_254 : decode cX11_guess 254 = .ok (.if_icmp .ne 66, 3) := by decide +kernel
theorem dX11_guess_320 : decode cX11_guess 320 = .ok (.aload_n 0, 1) := by decide +kernel
theorem dX11_guess_321 : decode cX11_guess 321 = .ok (.invokevirtual 442, 3) := by decide +kernel
theorem dX11_guess_324 : decode cX11_guess 324 = .ok (.istore 13, 2) := by decide +kernel
theorem dX11_guess_326 : decode cX11_guess 326 = .ok (.goto (-162), 3) := by decide +kernel
theorem dX11_guess_257 : decode cX11_guess 257 = .ok (.iload 9, 2) := by decide +kernel
theorem dX11_guess_259 : decode cX11_guess 259 = .ok (.ifCond .le 13, 3) := by decide +kernel
theorem dX11_guess_272 : decode cX11_guess 272 = .ok (.iconst 0, 1) := by decide +kernel
theorem dX11_guess_273 : decode cX11_guess 273 = .ok (.istore 14, 2) := by decide +kernel
theorem dX11_guess_275 : decode cX11_guess 275 = .ok (.iload 10, 2) := by decide +kernel
theorem dX11_guess_277 : decode cX11_guess 277 = .ok (.ifCond .eq 10, 3) := by decide +kernel
theorem dX11_guess_287 : decode cX11_guess 287 = .ok (.iload 14, 2) := by decide +kernel
theorem dX11_guess_289 : decode cX11_guess 289 = .ok (.goto 5, 3) := by decide +kernel
theorem dX11_guess_294 : decode cX11_guess 294 = .ok (.istore 11, 2) := by decide +kernel
theorem dX11_guess_296 : decode cX11_guess 296 = .ok (.iload 10, 2) := by decide +kernel
theorem dX11_guess_298 : decode cX11_guess 298 = .ok (.ifCond .eq 10, 3) := by decide +kernel
theorem dX11_guess_308 : decode cX11_guess 308 = .ok (.iload 14, 2) := by decide +kernel
theorem dX11_guess_310 : decode cX11_guess 310 = .ok (.goto 5, 3) := by decide +kernel
theorem dX11_guess_315 : decode cX11_guess 315 = .ok (.istore 12, 2) := by decide +kernel
theorem dX11_guess_317 : decode cX11_guess 317 = .ok (.iinc 10 1, 3) := by decide +kernel
theorem dX11_guess_90 : decode cX11_guess 90 = .ok (.iload 6, 2) := by decide +kernel
theorem dX11_guess_92 : decode cX11_guess 92 = .ok (.ifCond .ne 13, 3) := by decide +kernel
theorem dX11_guess_105 : decode cX11_guess 105 = .ok (.iconst 0, 1) := by decide +kernel
theorem dX11_guess_106 : decode cX11_guess 106 = .ok (.ireturn, 1) := by decide +kernel
theorem dX11_guess_95 : decode cX11_guess 95 = .ok (.iload_n 3, 1) := by decide +kernel
theorem dX11_guess_96 : decode cX11_guess 96 = .ok (.iload 7, 2) := by decide +kernel
theorem dX11_guess_98 : decode cX11_guess 98 = .ok (.if_icmp .ne 7, 3) := by decide +kernel
theorem dX11_guess_101 : decode cX11_guess 101 = .ok (.iconst 1, 1) := by decide +kernel
theorem dX11_guess_102 : decode cX11_guess 102 = .ok (.goto 4, 3) := by decide +kernel
theorem dX11_guess_58 : decode cX11_guess 58 = .ok (.iload 8, 2) := by decide +kernel
theorem dX11_guess_60 : decode cX11_guess 60 = .ok (.i2l, 1) := by decide +kernel
theorem dX11_guess_61 : decode cX11_guess 61 = .ok (.lconst 0, 1) := by decide +kernel
theorem dX11_guess_62 : decode cX11_guess 62 = .ok (.aload_n 0, 1) := by decide +kernel
theorem dX11_guess_63 : decode cX11_guess 63 = .ok (.getfield 39, 3) := by decide +kernel
theorem dX11_guess_66 : decode cX11_guess 66 = .ok (.bipush 9, 2) := by decide +kernel
theorem dX11_guess_68 : decode cX11_guess 68 = .ok (.iaload, 1) := by decide +kernel
theorem dX11_guess_69 : decode cX11_guess 69 = .ok (.iconst 1, 1) := by decide +kernel
theorem dX11_guess_70 : decode cX11_guess 70 = .ok (.isub, 1) := by decide +kernel
theorem dX11_guess_71 : decode cX11_guess 71 = .ok (.i2l, 1) := by decide +kernel
theorem dX11_guess_72 : decode cX11_guess 72 = .ok (.invokestatic 118, 3) := by decide +kernel
theorem dX11_guess_75 : decode cX11_guess 75 = .ok (.ifCond .ne 5, 3) := by decide +kernel
theorem dX11_guess_262 : decode cX11_guess 262 = .ok (.aload_n 0, 1) := by decide +kernel
theorem dX11_guess_263 : decode cX11_guess 263 = .ok (.getfield 66, 3) := by decide +kernel
theorem dX11_guess_266 : decode cX11_guess 266 = .ok (.iload 8, 2) := by decide +kernel
theorem dX11_guess_268 : decode cX11_guess 268 = .ok (.iaload, 1) := by decide +kernel
theorem dX11_guess_269 : decode cX11_guess 269 = .ok (.goto 4, 3) := by decide +kernel
theorem dX11_guess_280 : decode cX11_guess 280 = .ok (.iload 14, 2) := by decide +kernel
theorem dX11_guess_282 : decode cX11_guess 282 = .ok (.iload 11, 2) := by decide +kernel
theorem dX11_guess_284 : decode cX11_guess 284 = .ok (.if_icmp .ge 8, 3) := by decide +kernel
theorem dX11_guess_292 : decode cX11_guess 292 = .ok (.iload 11, 2) := by decide +kernel
theorem dX11_guess_301 : decode cX11_guess 301 = .ok (.iload 14, 2) := by decide +kernel
theorem dX11_guess_303 : decode cX11_guess 303 = .ok (.iload 12, 2) := by decide +kernel
theorem dX11_guess_305 : decode cX11_guess 305 = .ok (.if_icmp .le 8, 3) := by decide +kernel
theorem dX11_guess_313 : decode cX11_guess 313 = .ok (.iload 12, 2) := by decide +kernel
theorem dX11_guess_329 : decode cX11_guess 329 = .ok (.iload 9, 2) := by decide +kernel
theorem dX11_guess_331 : decode cX11_guess 331 = .ok (.ifCond .ne 8, 3) := by decide +kernel
theorem dX11_guess_339 : decode cX11_guess 339 = .ok (.iload 10, 2) := by decide +kernel
theorem dX11_guess_341 : decode cX11_guess 341 = .ok (.ifCond .ne 8, 3) := by decide +kernel
theorem dX11_guess_349 : decode cX11_guess 349 = .ok (.iload 9, 2) := by decide +kernel
theorem dX11_guess_351 : decode cX11_guess 351 = .ok (.iconst 1, 1) := by decide +kernel
theorem dX11_guess_352 : decode cX11_guess 352 = .ok (.if_icmp .ne 8, 3) := by decide +kernel
theorem dX11_guess_360 : decode cX11_guess 360 = .ok (.iload 12, 2) := by decide +kernel
theorem dX11_guess_355 : decode cX11_guess 355 = .ok (.iload 11, 2) := by decide +kernel
theorem dX11_guess_357 : decode cX11_guess 357 = .ok (.goto 5, 3) := by decide +kernel
theorem dX11_guess_344 : decode cX11_guess 344 = .ok (.bipush (-2), 2) := by decide +kernel
theorem dX11_guess_346 : decode cX11_guess 346 = .ok (.goto 16, 3) := by decide +kernel
theorem dX11_guess_334 : decode cX11_guess 334 = .ok (.iload 10, 2) := by decide +kernel
theorem dX11_guess_336 : decode cX11_guess 336 = .ok (.goto 26, 3) := by decide +kernel
theorem dX11_guess_362 : decode cX11_guess 362 = .ok (.ireturn, 1) := by decide +kernel

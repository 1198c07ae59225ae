theorem kX11_searches_1 {a : Array Value} {s : State} (hts : ∀ w ∈ wsX11_searches, w.before a s = true) : (.fieldLink RX11 45 "SnowMulesModel" "stepNode" "[I" : Cond).before a s = true := hts _ (List.mem_of_getElem? (i := 1) (by decide +kernel))
theorem kX11_searches_2 {a : Array Value} {s : State} (hts : ∀ w ∈ wsX11_searches, w.before a s = true) : (.fieldLink RX11 48 "SnowMulesModel" "stepDrops" "[I" : Cond).before a s = true := hts _ (List.mem_of_getElem? (i := 2) (by decide +kernel))
theorem kX11_searches_3 {a : Array Value} {s : State} (hts : ∀ w ∈ wsX11_searches, w.before a s = true) : (.fieldLink RX11 51 "SnowMulesModel" "stepHour" "[I" : Cond).before a s = true := hts _ (List.mem_of_getElem? (i := 3) (by decide +kernel))
theorem kX11_searches_4 {a : Array Value} {s : State} (hts : ∀ w ∈ wsX11_searches, w.before a s = true) : (.fieldLink RX11 54 "SnowMulesModel" "stepNext" "[I" : Cond).before a s = true := hts _ (List.mem_of_getElem? (i := 4) (by decide +kernel))
theorem kX11_searches_10 {a : Array Value} {s : State} (hts : ∀ w ∈ wsX11_searches, w.before a s = true) : (.fieldLink RX11 39 "SnowMulesModel" "said" "[I" : Cond).before a s = true := hts _ (List.mem_of_getElem? (i := 10) (by decide +kernel))
theorem kX11_searches_9 {a : Array Value} {s : State} (hts : ∀ w ∈ wsX11_searches, w.before a s = true) : (.fieldLink RX11 57 "SnowMulesModel" "stepPass" "[I" : Cond).before a s = true := hts _ (List.mem_of_getElem? (i := 9) (by decide +kernel))
theorem kX11_searches_11 {a : Array Value} {s : State} (hts : ∀ w ∈ wsX11_searches, w.before a s = true) : (.fieldLink RX11 384 "SnowMulesModel" "goDrops" "I" : Cond).before a s = true := hts _ (List.mem_of_getElem? (i := 11) (by decide +kernel))
theorem kX11_searches_12 {a : Array Value} {s : State} (hts : ∀ w ∈ wsX11_searches, w.before a s = true) : (.fieldLink RX11 387 "SnowMulesModel" "goHour" "I" : Cond).before a s = true := hts _ (List.mem_of_getElem? (i := 12) (by decide +kernel))
theorem kX11_searches_5 {a : Array Value} {s : State} (hts : ∀ w ∈ wsX11_searches, w.before a s = true) : (.fieldLink RX11 413 "SnowMulesModel" "bestLeft" "I" : Cond).before a s = true := hts _ (List.mem_of_getElem? (i := 5) (by decide +kernel))
theorem kX11_searches_6 {a : Array Value} {s : State} (hts : ∀ w ∈ wsX11_searches, w.before a s = true) : (.fieldLink RX11 416 "SnowMulesModel" "bestHour" "I" : Cond).before a s = true := hts _ (List.mem_of_getElem? (i := 6) (by decide +kernel))
theorem kX11_searches_7 {a : Array Value} {s : State} (hts : ∀ w ∈ wsX11_searches, w.before a s = true) : (.fieldLink RX11 419 "SnowMulesModel" "bestMany" "I" : Cond).before a s = true := hts _ (List.mem_of_getElem? (i := 7) (by decide +kernel))
theorem kX11_searches_8 {a : Array Value} {s : State} (hts : ∀ w ∈ wsX11_searches, w.before a s = true) : (.fieldLink RX11 60 "SnowMulesModel" "bestPass" "[I" : Cond).before a s = true := hts _ (List.mem_of_getElem? (i := 8) (by decide +kernel))
theorem kX11_searchesDay_1 {a : Array Value} {s : State} (hts : ∀ w ∈ wsX11_searchesDay, w.before a s = true) : (.fieldLink RX11 413 "SnowMulesModel" "bestLeft" "I" : Cond).before a s = true := hts _ (List.mem_of_getElem? (i := 1) (by decide +kernel))
theorem kX11_searchesDay_2 {a : Array Value} {s : State} (hts : ∀ w ∈ wsX11_searchesDay, w.before a s = true) : (.constant RX11 425 (2147483647) : Cond).before a s = true := hts _ (List.mem_of_getElem? (i := 2) (by decide +kernel))
theorem kX11_best_1 {a : Array Value} {s : State} (hts : ∀ w ∈ wsX11_best, w.before a s = true) : (.constantLong RX11 289 (99999) : Cond).before a s = true := hts _ (List.mem_of_getElem? (i := 1) (by decide +kernel))
theorem kX11_best_2 {a : Array Value} {s : State} (hts : ∀ w ∈ wsX11_best, w.before a s = true) : (.constantLong RX11 373 (8) : Cond).before a s = true := hts _ (List.mem_of_getElem? (i := 2) (by decide +kernel))
theorem kX11_best_3 {a : Array Value} {s : State} (hts : ∀ w ∈ wsX11_best, w.before a s = true) : (.fieldLink RX11 413 "SnowMulesModel" "bestLeft" "I" : Cond).before a s = true := hts _ (List.mem_of_getElem? (i := 3) (by decide +kernel))
theorem kX11_best_5 {a : Array Value} {s : State} (hts : ∀ w ∈ wsX11_best, w.before a s = true) : (.fieldLink RX11 419 "SnowMulesModel" "bestMany" "I" : Cond).before a s = true := hts _ (List.mem_of_getElem? (i := 5) (by decide +kernel))
theorem kX11_best_6 {a : Array Value} {s : State} (hts : ∀ w ∈ wsX11_best, w.before a s = true) : (.fieldLink RX11 60 "SnowMulesModel" "bestPass" "[I" : Cond).before a s = true := hts _ (List.mem_of_getElem? (i := 6) (by decide +kernel))
theorem kX11_best_4 {a : Array Value} {s : State} (hts : ∀ w ∈ wsX11_best, w.before a s = true) : (.fieldLink RX11 416 "SnowMulesModel" "bestHour" "I" : Cond).before a s = true := hts _ (List.mem_of_getElem? (i := 4) (by decide +kernel))
theorem kX11_price_1 {a : Array Value} {s : State} (hts : ∀ w ∈ wsX11_price, w.before a s = true) : (.constantLong RX11 289 (99999) : Cond).before a s = true := hts _ (List.mem_of_getElem? (i := 1) (by decide +kernel))
theorem kX11_price_2 {a : Array Value} {s : State} (hts : ∀ w ∈ wsX11_price, w.before a s = true) : (.fieldLink RX11 413 "SnowMulesModel" "bestLeft" "I" : Cond).before a s = true := hts _ (List.mem_of_getElem? (i := 2) (by decide +kernel))
theorem iX11_searches_X11 : ∀ w ∈ wsX110, w ∈ wsX11_searches := by decide +kernel
theorem iX11_searchesDay_X11 : ∀ w ∈ wsX110, w ∈ wsX11_searchesDay := by decide +kernel
theorem iX11_best_X11 : ∀ w ∈ wsX110, w ∈ wsX11_best := by decide +kernel
theorem iX11_price_X11 : ∀ w ∈ wsX110, w ∈ wsX11_price := by decide +kernel
theorem dX11_searches_0 : decode cX11_searches 0 = .ok (.iconst 0, 1) := by decide +kernel
theorem dX11_searches_1 : decode cX11_searches 1 = .ok (.istore 10, 2) := by decide +kernel
theorem dX11_searches_3 : decode cX11_searches 3 = .ok (.aload_n 0, 1) := by decide +kernel
theorem dX11_searches_4 : decode cX11_searches 4 = .ok (.getfield 45, 3) := by decide +kernel
theorem dX11_searches_7 : decode cX11_searches 7 = .ok (.iconst 0, 1) := by decide +kernel
theorem dX11_searches_8 : decode cX11_searches 8 = .ok (.iload_n 2, 1) := by decide +kernel
theorem dX11_searches_9 : decode cX11_searches 9 = .ok (.iastore, 1) := by decide +kernel
theorem dX11_searches_10 : decode cX11_searches 10 = .ok (.aload_n 0, 1) := by decide +kernel
theorem dX11_searches_11 : decode cX11_searches 11 = .ok (.getfield 48, 3) := by decide +kernel
theorem dX11_searches_14 : decode cX11_searches 14 = .ok (.iconst 0, 1) := by decide +kernel
theorem dX11_searches_15 : decode cX11_searches 15 = .ok (.iload 5, 2) := by decide +kernel
theorem dX11_searches_17 : decode cX11_searches 17 = .ok (.iastore, 1) := by decide +kernel
theorem dX11_searches_18 : decode cX11_searches 18 = .ok (.aload_n 0, 1) := by decide +kernel
theorem dX11_searches_19 : decode cX11_searches 19 = .ok (.getfield 51, 3) := by decide +kernel
theorem dX11_searches_22 : decode cX11_searches 22 = .ok (.iconst 0, 1) := by decide +kernel
theorem dX11_searches_23 : decode cX11_searches 23 = .ok (.iload 4, 2) := by decide +kernel
theorem dX11_searches_25 : decode cX11_searches 25 = .ok (.iastore, 1) := by decide +kernel
theorem dX11_searches_26 : decode cX11_searches 26 = .ok (.aload_n 0, 1) := by decide +kernel
theorem dX11_searches_27 : decode cX11_searches 27 = .ok (.getfield 54, 3) := by decide +kernel
theorem dX11_searches_30 : decode cX11_searches 30 = .ok (.iconst 0, 1) := by decide +kernel
theorem dX11_searches_31 : decode cX11_searches 31 = .ok (.iconst 0, 1) := by decide +kernel
theorem dX11_searches_32 : decode cX11_searches 32 = .ok (.iastore, 1) := by decide +kernel
theorem dX11_searches_33 : decode cX11_searches 33 = .ok (.iload 10, 2) := by decide +kernel
theorem dX11_searches_35 : decode cX11_searches 35 = .ok (.ifCond .lt 279, 3) := by decide +kernel
theorem dX11_searches_38 : decode cX11_searches 38 = .ok (.aload_n 0, 1) := by decide +kernel
theorem dX11_searches_39 : decode cX11_searches 39 = .ok (.getfield 45, 3) := by decide +kernel
theorem dX11_searches_42 : decode cX11_searches 42 = .ok (.iload 10, 2) := by decide +kernel
theorem dX11_searches_44 : decode cX11_searches 44 = .ok (.iaload, 1) := by decide +kernel
theorem dX11_searches_45 : decode cX11_searches 45 = .ok (.iload_n 3, 1) := by decide +kernel
theorem dX11_searches_46 : decode cX11_searches 46 = .ok (.if_icmp .ne 88, 3) := by decide +kernel
theorem dX11_searches_134 : decode cX11_searches 134 = .ok (.iload 10, 2) := by decide +kernel
theorem dX11_searches_136 : decode cX11_searches 136 = .ok (.bipush 6, 2) := by decide +kernel
theorem dX11_searches_138 : decode cX11_searches 138 = .ok (.if_icmp .eq 19, 3) := by decide +kernel
theorem dX11_searches_141 : decode cX11_searches 141 = .ok (.aload_n 0, 1) := by decide +kernel
theorem dX11_searches_142 : decode cX11_searches 142 = .ok (.getfield 54, 3) := by decide +kernel
theorem dX11_searches_145 : decode cX11_searches 145 = .ok (.iload 10, 2) := by decide +kernel
theorem dX11_searches_147 : decode cX11_searches 147 = .ok (.iaload, 1) := by decide +kernel
theorem dX11_searches_148 : decode cX11_searches 148 = .ok (.aload_n 0, 1) := by decide +kernel
theorem dX11_searches_149 : decode cX11_searches 149 = .ok (.getfield 39, 3) := by decide +kernel
theorem dX11_searches_152 : decode cX11_searches 152 = .ok (.iconst 1, 1) := by decide +kernel
theorem dX11_searches_153 : decode cX11_searches 153 = .ok (.iaload, 1) := by decide +kernel
theorem dX11_searches_154 : decode cX11_searches 154 = .ok (.if_icmp .ne 9, 3) := by decide +kernel
theorem dX11_searches_163 : decode cX11_searches 163 = .ok (.aload_n 0, 1) := by decide +kernel
theorem dX11_searches_164 : decode cX11_searches 164 = .ok (.getfield 54, 3) := by decide +kernel
theorem dX11_searches_167 : decode cX11_searches 167 = .ok (.iload 10, 2) := by decide +kernel
theorem dX11_searches_169 : decode cX11_searches 169 = .ok (.iaload, 1) := by decide +kernel
theorem dX11_searches_170 : decode cX11_searches 170 = .ok (.istore 11, 2) := by decide +kernel
theorem dX11_searches_172 : decode cX11_searches 172 = .ok (.aload_n 0, 1) := by decide +kernel
theorem dX11_searches_173 : decode cX11_searches 173 = .ok (.getfield 54, 3) := by decide +kernel
theorem dX11_searches_176 : decode cX11_searches 176 = .ok (.iload 10, 2) := by decide +kernel
theorem dX11_searches_178 : decode cX11_searches 178 = .ok (.dup2, 1) := by decide +kernel
theorem dX11_searches_179 : decode cX11_searches 179 = .ok (.iaload, 1) := by decide +kernel
theorem dX11_searches_180 : decode cX11_searches 180 = .ok (.iconst 1, 1) := by decide +kernel
theorem dX11_searches_181 : decode cX11_searches 181 = .ok (.iadd, 1) := by decide +kernel
theorem dX11_searches_182 : decode cX11_searches 182 = .ok (.iastore, 1) := by decide +kernel
theorem dX11_searches_183 : decode cX11_searches 183 = .ok (.aload_n 0, 1) := by decide +kernel
theorem dX11_searches_184 : decode cX11_searches 184 = .ok (.iload 11, 2) := by decide +kernel
theorem dX11_searches_186 : decode cX11_searches 186 = .ok (.aload_n 0, 1) := by decide +kernel
theorem dX11_searches_187 : decode cX11_searches 187 = .ok (.getfield 45, 3) := by decide +kernel
theorem dX11_searches_190 : decode cX11_searches 190 = .ok (.iload 10, 2) := by decide +kernel
theorem dX11_searches_192 : decode cX11_searches 192 = .ok (.iaload, 1) := by decide +kernel
theorem dX11_searches_193 : decode cX11_searches 193 = .ok (.invokevirtual 309, 3) := by decide +kernel
theorem dX11_searches_196 : decode cX11_searches 196 = .ok (.istore 12, 2) := by decide +kernel
theorem dX11_searches_198 : decode cX11_searches 198 = .ok (.iload 11, 2) := by decide +kernel
theorem dX11_searches_200 : decode cX11_searches 200 = .ok (.iload 8, 2) := by decide +kernel
theorem dX11_searches_202 : decode cX11_searches 202 = .ok (.if_icmp .eq (-169), 3) := by decide +kernel
theorem dX11_searches_205 : decode cX11_searches 205 = .ok (.iload 12, 2) := by decide +kernel
theorem dX11_searches_207 : decode cX11_searches 207 = .ok (.ifCond .lt (-174), 3) := by decide +kernel
theorem dX11_searches_210 : decode cX11_searches 210 = .ok (.aload_n 0, 1) := by decide +kernel
theorem dX11_searches_211 : decode cX11_searches 211 = .ok (.iload 12, 2) := by decide +kernel
theorem dX11_searches_213 : decode cX11_searches 213 = .ok (.iload 10, 2) := by decide +kernel
theorem dX11_searches_215 : decode cX11_searches 215 = .ok (.invokevirtual 422, 3) := by decide +kernel
theorem dX11_searches_218 : decode cX11_searches 218 = .ok (.ifCond .eq 6, 3) := by decide +kernel
theorem dX11_searches_224 : decode cX11_searches 224 = .ok (.aload_n 0, 1) := by decide +kernel
theorem dX11_searches_225 : decode cX11_searches 225 = .ok (.aload_n 0, 1) := by decide +kernel
theorem dX11_searches_226 : decode cX11_searches 226 = .ok (.getfield 45, 3) := by decide +kernel
theorem dX11_searches_229 : decode cX11_searches 229 = .ok (.iload 10, 2) := by decide +kernel
theorem dX11_searches_231 : decode cX11_searches 231 = .ok (.iaload, 1) := by decide +kernel
theorem dX11_searches_232 : decode cX11_searches 232 = .ok (.aload_n 0, 1) := by decide +kernel
theorem dX11_searches_233 : decode cX11_searches 233 = .ok (.getfield 48, 3) := by decide +kernel
theorem dX11_searches_236 : decode cX11_searches 236 = .ok (.iload 10, 2) := by decide +kernel
theorem dX11_searches_238 : decode cX11_searches 238 = .ok (.iaload, 1) := by decide +kernel
theorem dX11_searches_239 : decode cX11_searches 239 = .ok (.aload_n 0, 1) := by decide +kernel
theorem dX11_searches_240 : decode cX11_searches 240 = .ok (.getfield 51, 3) := by decide +kernel
theorem dX11_searches_243 : decode cX11_searches 243 = .ok (.iload 10, 2) := by decide +kernel
theorem dX11_searches_245 : decode cX11_searches 245 = .ok (.iaload, 1) := by decide +kernel
theorem dX11_searches_246 : decode cX11_searches 246 = .ok (.iload 6, 2) := by decide +kernel
theorem dX11_searches_248 : decode cX11_searches 248 = .ok (.iload 7, 2) := by decide +kernel
theorem dX11_searches_250 : decode cX11_searches 250 = .ok (.invokevirtual 407, 3) := by decide +kernel
theorem dX11_searches_253 : decode cX11_searches 253 = .ok (.aload_n 0, 1) := by decide +kernel
theorem dX11_searches_254 : decode cX11_searches 254 = .ok (.iload_n 1, 1) := by decide +kernel
theorem dX11_searches_255 : decode cX11_searches 255 = .ok (.iload 11, 2) := by decide +kernel
theorem dX11_searches_257 : decode cX11_searches 257 = .ok (.invokevirtual 410, 3) := by decide +kernel
theorem dX11_searches_260 : decode cX11_searches 260 = .ok (.aload_n 0, 1) := by decide +kernel
theorem dX11_searches_261 : decode cX11_searches 261 = .ok (.getfield 57, 3) := by decide +kernel
theorem dX11_searches_264 : decode cX11_searches 264 = .ok (.iload 10, 2) := by decide +kernel
theorem dX11_searches_266 : decode cX11_searches 266 = .ok (.iload 11, 2) := by decide +kernel
theorem dX11_searches_268 : decode cX11_searches 268 = .ok (.iastore, 1) := by decide +kernel
theorem dX11_searches_269 : decode cX11_searches 269 = .ok (.iinc 10 1, 3) := by decide +kernel
theorem dX11_searches_272 : decode cX11_searches 272 = .ok (.aload_n 0, 1) := by decide +kernel
theorem dX11_searches_273 : decode cX11_searches 273 = .ok (.getfield 45, 3) := by decide +kernel
theorem dX11_searches_276 : decode cX11_searches 276 = .ok (.iload 10, 2) := by decide +kernel
theorem dX11_searches_278 : decode cX11_searches 278 = .ok (.iload 12, 2) := by decide +kernel
theorem dX11_searches_280 : decode cX11_searches 280 = .ok (.iastore, 1) := by decide +kernel
theorem dX11_searches_281 : decode cX11_searches 281 = .ok (.aload_n 0, 1) := by decide +kernel
theorem dX11_searches_282 : decode cX11_searches 282 = .ok (.getfield 48, 3) := by decide +kernel
theorem dX11_searches_285 : decode cX11_searches 285 = .ok (.iload 10, 2) := by decide +kernel
theorem dX11_searches_287 : decode cX11_searches 287 = .ok (.aload_n 0, 1) := by decide +kernel
theorem dX11_searches_288 : decode cX11_searches 288 = .ok (.getfield 384, 3) := by decide +kernel
theorem dX11_searches_291 : decode cX11_searches 291 = .ok (.iastore, 1) := by decide +kernel
theorem dX11_searches_292 : decode cX11_searches 292 = .ok (.aload_n 0, 1) := by decide +kernel
theorem dX11_searches_293 : decode cX11_searches 293 = .ok (.getfield 51, 3) := by decide +kernel
theorem dX11_searches_296 : decode cX11_searches 296 = .ok (.iload 10, 2) := by decide +kernel
theorem dX11_searches_298 : decode cX11_searches 298 = .ok (.aload_n 0, 1) := by decide +kernel
theorem dX11_searches_299 : decode cX11_searches 299 = .ok (.getfield 387, 3) := by decide +kernel
theorem dX11_searches_302 : decode cX11_searches 302 = .ok (.iastore, 1) := by decide +kernel
theorem dX11_searches_303 : decode cX11_searches 303 = .ok (.aload_n 0, 1) := by decide +kernel
theorem dX11_searches_304 : decode cX11_searches 304 = .ok (.getfield 54, 3) := by decide +kernel
theorem dX11_searches_307 : decode cX11_searches 307 = .ok (.iload 10, 2) := by decide +kernel
theorem dX11_searches_309 : decode cX11_searches 309 = .ok (.iconst 0, 1) := by decide +kernel
theorem dX11_searches_310 : decode cX11_searches 310 = .ok (.iastore, 1) := by decide +kernel
theorem dX11_searches_311 : decode cX11_searches 311 = .ok (.goto (-278), 3) := by decide +kernel
theorem dX11_searches_221 : decode cX11_searches 221 = .ok (.goto (-188), 3) := by decide +kernel
theorem dX11_searches_157 : decode cX11_searches 157 = .ok (.iinc 10 (-1), 3) := by decide +kernel
theorem dX11_searches_160 : decode cX11_searches 160 = .ok (.goto (-127), 3) := by decide +kernel
theorem dX11_searches_49 : decode cX11_searches 49 = .ok (.aload_n 0, 1) := by decide +kernel
theorem dX11_searches_50 : decode cX11_searches 50 = .ok (.getfield 51, 3) := by decide +kernel
theorem dX11_searches_53 : decode cX11_searches 53 = .ok (.iload 10, 2) := by decide +kernel
theorem dX11_searches_55 : decode cX11_searches 55 = .ok (.iaload, 1) := by decide +kernel
theorem dX11_searches_56 : decode cX11_searches 56 = .ok (.iload 9, 2) := by decide +kernel
theorem dX11_searches_58 : decode cX11_searches 58 = .ok (.if_icmp .gt 70, 3) := by decide +kernel
theorem dX11_searches_128 : decode cX11_searches 128 = .ok (.iinc 10 (-1), 3) := by decide +kernel
theorem dX11_searches_131 : decode cX11_searches 131 = .ok (.goto (-98), 3) := by decide +kernel
theorem dX11_searches_61 : decode cX11_searches 61 = .ok (.aload_n 0, 1) := by decide +kernel
theorem dX11_searches_62 : decode cX11_searches 62 = .ok (.getfield 48, 3) := by decide +kernel
theorem dX11_searches_65 : decode cX11_searches 65 = .ok (.iload 10, 2) := by decide +kernel
theorem dX11_searches_67 : decode cX11_searches 67 = .ok (.iaload, 1) := by decide +kernel
theorem dX11_searches_68 : decode cX11_searches 68 = .ok (.aload_n 0, 1) := by decide +kernel
theorem dX11_searches_69 : decode cX11_searches 69 = .ok (.getfield 413, 3) := by decide +kernel
theorem dX11_searches_72 : decode cX11_searches 72 = .ok (.if_icmp .le 56, 3) := by decide +kernel
theorem dX11_searches_75 : decode cX11_searches 75 = .ok (.aload_n 0, 1) := by decide +kernel
theorem dX11_searches_76 : decode cX11_searches 76 = .ok (.aload_n 0, 1) := by decide +kernel
theorem dX11_searches_77 : decode cX11_searches 77 = .ok (.getfield 48, 3) := by decide +kernel
theorem dX11_searches_80 : decode cX11_searches 80 = .ok (.iload 10, 2) := by decide +kernel
theorem dX11_searches_82 : decode cX11_searches 82 = .ok (.iaload, 1) := by decide +kernel
theorem dX11_searches_83 : decode cX11_searches 83 = .ok (.putfield 413, 3) := by decide +kernel
theorem dX11_searches_86 : decode cX11_searches 86 = .ok (.aload_n 0, 1) := by decide +kernel
theorem dX11_searches_87 : decode cX11_searches 87 = .ok (.iload 4, 2) := by decide +kernel
theorem dX11_searches_89 : decode cX11_searches 89 = .ok (.putfield 416, 3) := by decide +kernel
theorem dX11_searches_92 : decode cX11_searches 92 = .ok (.aload_n 0, 1) := by decide +kernel
theorem dX11_searches_93 : decode cX11_searches 93 = .ok (.iload 10, 2) := by decide +kernel
theorem dX11_searches_95 : decode cX11_searches 95 = .ok (.putfield 419, 3) := by decide +kernel
theorem dX11_searches_98 : decode cX11_searches 98 = .ok (.iconst 0, 1) := by decide +kernel
theorem dX11_searches_99 : decode cX11_searches 99 = .ok (.istore 11, 2) := by decide +kernel
theorem dX11_searches_101 : decode cX11_searches 101 = .ok (.iload 11, 2) := by decide +kernel
theorem dX11_searches_103 : decode cX11_searches 103 = .ok (.iload 10, 2) := by decide +kernel
theorem dX11_searches_105 : decode cX11_searches 105 = .ok (.if_icmp .ge 23, 3) := by decide +kernel
theorem dX11_searches_108 : decode cX11_searches 108 = .ok (.aload_n 0, 1) := by decide +kernel
theorem dX11_searches_109 : decode cX11_searches 109 = .ok (.getfield 60, 3) := by decide +kernel
theorem dX11_searches_112 : decode cX11_searches 112 = .ok (.iload 11, 2) := by decide +kernel
theorem dX11_searches_114 : decode cX11_searches 114 = .ok (.aload_n 0, 1) := by decide +kernel
theorem dX11_searches_115 : decode cX11_searches 115 = .ok (.getfield 57, 3) := by decide +kernel
theorem dX11_searches_118 : decode cX11_searches 118 = .ok (.iload 11, 2) := by decide +kernel
theorem dX11_searches_120 : decode cX11_searches 120 = .ok (.iaload, 1) := by decide +kernel
theorem dX11_searches_121 : decode cX11_searches 121 = .ok (.iastore, 1) := by decide +kernel
theorem dX11_searches_122 : decode cX11_searches 122 = .ok (.iinc 11 1, 3) := by decide +kernel
theorem dX11_searches_125 : decode cX11_searches 125 = .ok (.goto (-24), 3) := by decide +kernel
theorem dX11_searches_314 : decode cX11_searches 314 = .ok (.return_, 1) := by decide +kernel
theorem dX11_searchesDay_0 : decode cX11_searchesDay 0 = .ok (.aload_n 0, 1) := by decide +kernel
theorem dX11_searchesDay_1 : decode cX11_searchesDay 1 = .ok (.iconst (-1), 1) := by decide +kernel
theorem dX11_searchesDay_2 : decode cX11_searchesDay 2 = .ok (.putfield 413, 3) := by decide +kernel
theorem dX11_searchesDay_5 : decode cX11_searchesDay 5 = .ok (.iconst 0, 1) := by decide +kernel
theorem dX11_searchesDay_6 : decode cX11_searchesDay 6 = .ok (.istore 9, 2) := by decide +kernel
theorem dX11_searchesDay_8 : decode cX11_searchesDay 8 = .ok (.iload 9, 2) := by decide +kernel
theorem dX11_searchesDay_10 : decode cX11_searchesDay 10 = .ok (.bipush 24, 2) := by decide +kernel
theorem dX11_searchesDay_12 : decode cX11_searchesDay 12 = .ok (.if_icmp .ge 32, 3) := by decide +kernel
theorem dX11_searchesDay_15 : decode cX11_searchesDay 15 = .ok (.aload_n 0, 1) := by decide +kernel
theorem dX11_searchesDay_16 : decode cX11_searchesDay 16 = .ok (.iload_n 1, 1) := by decide +kernel
theorem dX11_searchesDay_17 : decode cX11_searchesDay 17 = .ok (.iload_n 2, 1) := by decide +kernel
theorem dX11_searchesDay_18 : decode cX11_searchesDay 18 = .ok (.iload_n 3, 1) := by decide +kernel
theorem dX11_searchesDay_19 : decode cX11_searchesDay 19 = .ok (.iload 4, 2) := by decide +kernel
theorem dX11_searchesDay_21 : decode cX11_searchesDay 21 = .ok (.iload 9, 2) := by decide +kernel
theorem dX11_searchesDay_23 : decode cX11_searchesDay 23 = .ok (.iadd, 1) := by decide +kernel
theorem dX11_searchesDay_24 : decode cX11_searchesDay 24 = .ok (.iload 5, 2) := by decide +kernel
theorem dX11_searchesDay_26 : decode cX11_searchesDay 26 = .ok (.iload 6, 2) := by decide +kernel
theorem dX11_searchesDay_28 : decode cX11_searchesDay 28 = .ok (.iload 7, 2) := by decide +kernel
theorem dX11_searchesDay_30 : decode cX11_searchesDay 30 = .ok (.iload 8, 2) := by decide +kernel
theorem dX11_searchesDay_32 : decode cX11_searchesDay 32 = .ok (.ldc_w 425, 3) := by decide +kernel
theorem dX11_searchesDay_35 : decode cX11_searchesDay 35 = .ok (.invokevirtual 426, 3) := by decide +kernel
theorem dX11_searchesDay_38 : decode cX11_searchesDay 38 = .ok (.iinc 9 1, 3) := by decide +kernel
theorem dX11_searchesDay_41 : decode cX11_searchesDay 41 = .ok (.goto (-33), 3) := by decide +kernel
theorem dX11_searchesDay_44 : decode cX11_searchesDay 44 = .ok (.return_, 1) := by decide +kernel
theorem dX11_best_0 : decode cX11_best 0 = .ok (.aload_n 0, 1) := by decide +kernel
theorem dX11_best_1 : decode cX11_best 1 = .ok (.iload_n 1, 1) := by decide +kernel
theorem dX11_best_2 : decode cX11_best 2 = .ok (.invokevirtual 363, 3) := by decide +kernel
theorem dX11_best_5 : decode cX11_best 5 = .ok (.ifCond .eq 57, 3) := by decide +kernel
theorem dX11_best_62 : decode cX11_best 62 = .ok (.iconst (-1), 1) := by decide +kernel
theorem dX11_best_63 : decode cX11_best 63 = .ok (.ireturn, 1) := by decide +kernel
theorem dX11_best_8 : decode cX11_best 8 = .ok (.aload_n 0, 1) := by decide +kernel
theorem dX11_best_9 : decode cX11_best 9 = .ok (.iload_n 2, 1) := by decide +kernel
theorem dX11_best_10 : decode cX11_best 10 = .ok (.invokevirtual 267, 3) := by decide +kernel
theorem dX11_best_13 : decode cX11_best 13 = .ok (.ifCond .eq 49, 3) := by decide +kernel
theorem dX11_best_16 : decode cX11_best 16 = .ok (.aload_n 0, 1) := by decide +kernel
theorem dX11_best_17 : decode cX11_best 17 = .ok (.iload_n 3, 1) := by decide +kernel
theorem dX11_best_18 : decode cX11_best 18 = .ok (.invokevirtual 267, 3) := by decide +kernel
theorem dX11_best_21 : decode cX11_best 21 = .ok (.ifCond .eq 41, 3) := by decide +kernel
theorem dX11_best_24 : decode cX11_best 24 = .ok (.iload 4, 2) := by decide +kernel
theorem dX11_best_26 : decode cX11_best 26 = .ok (.i2l, 1) := by decide +kernel
theorem dX11_best_27 : decode cX11_best 27 = .ok (.lconst 0, 1) := by decide +kernel
theorem dX11_best_28 : decode cX11_best 28 = .ok (.ldc2_w 289, 3) := by decide +kernel
theorem dX11_best_31 : decode cX11_best 31 = .ok (.invokestatic 118, 3) := by decide +kernel
theorem dX11_best_34 : decode cX11_best 34 = .ok (.ifCond .eq 28, 3) := by decide +kernel
theorem dX11_best_37 : decode cX11_best 37 = .ok (.iload 5, 2) := by decide +kernel
theorem dX11_best_39 : decode cX11_best 39 = .ok (.iload 6, 2) := by decide +kernel
theorem dX11_best_41 : decode cX11_best 41 = .ok (.iload 7, 2) := by decide +kernel
theorem dX11_best_43 : decode cX11_best 43 = .ok (.invokestatic 399, 3) := by decide +kernel
theorem dX11_best_46 : decode cX11_best 46 = .ok (.ifCond .eq 16, 3) := by decide +kernel
theorem dX11_best_49 : decode cX11_best 49 = .ok (.iload 8, 2) := by decide +kernel
theorem dX11_best_51 : decode cX11_best 51 = .ok (.i2l, 1) := by decide +kernel
theorem dX11_best_52 : decode cX11_best 52 = .ok (.lconst 0, 1) := by decide +kernel
theorem dX11_best_53 : decode cX11_best 53 = .ok (.ldc2_w 373, 3) := by decide +kernel
theorem dX11_best_56 : decode cX11_best 56 = .ok (.invokestatic 118, 3) := by decide +kernel
theorem dX11_best_59 : decode cX11_best 59 = .ok (.ifCond .ne 5, 3) := by decide +kernel
theorem dX11_best_64 : decode cX11_best 64 = .ok (.aload_n 0, 1) := by decide +kernel
theorem dX11_best_65 : decode cX11_best 65 = .ok (.iload_n 1, 1) := by decide +kernel
theorem dX11_best_66 : decode cX11_best 66 = .ok (.iload_n 2, 1) := by decide +kernel
theorem dX11_best_67 : decode cX11_best 67 = .ok (.iload_n 3, 1) := by decide +kernel
theorem dX11_best_68 : decode cX11_best 68 = .ok (.iload 4, 2) := by decide +kernel
theorem dX11_best_70 : decode cX11_best 70 = .ok (.iload 5, 2) := by decide +kernel
theorem dX11_best_72 : decode cX11_best 72 = .ok (.iload 6, 2) := by decide +kernel
theorem dX11_best_74 : decode cX11_best 74 = .ok (.iload 7, 2) := by decide +kernel
theorem dX11_best_76 : decode cX11_best 76 = .ok (.iconst (-1), 1) := by decide +kernel
theorem dX11_best_77 : decode cX11_best 77 = .ok (.invokevirtual 430, 3) := by decide +kernel
theorem dX11_best_80 : decode cX11_best 80 = .ok (.aload_n 0, 1) := by decide +kernel
theorem dX11_best_81 : decode cX11_best 81 = .ok (.getfield 413, 3) := by decide +kernel
theorem dX11_best_84 : decode cX11_best 84 = .ok (.ifCond .ge 6, 3) := by decide +kernel
theorem dX11_best_90 : decode cX11_best 90 = .ok (.iload 8, 2) := by decide +kernel
theorem dX11_best_92 : decode cX11_best 92 = .ok (.iconst 3, 1) := by decide +kernel
theorem dX11_best_93 : decode cX11_best 93 = .ok (.if_icmp .ge 36, 3) := by decide +kernel
theorem dX11_best_129 : decode cX11_best 129 = .ok (.iload 8, 2) := by decide +kernel
theorem dX11_best_131 : decode cX11_best 131 = .ok (.iconst 3, 1) := by decide +kernel
theorem dX11_best_132 : decode cX11_best 132 = .ok (.isub, 1) := by decide +kernel
theorem dX11_best_133 : decode cX11_best 133 = .ok (.aload_n 0, 1) := by decide +kernel
theorem dX11_best_134 : decode cX11_best 134 = .ok (.getfield 419, 3) := by decide +kernel
theorem dX11_best_137 : decode cX11_best 137 = .ok (.if_icmp .ge 15, 3) := by decide +kernel
theorem dX11_best_152 : decode cX11_best 152 = .ok (.bipush (-2), 2) := by decide +kernel
theorem dX11_best_140 : decode cX11_best 140 = .ok (.aload_n 0, 1) := by decide +kernel
theorem dX11_best_141 : decode cX11_best 141 = .ok (.getfield 60, 3) := by decide +kernel
theorem dX11_best_144 : decode cX11_best 144 = .ok (.iload 8, 2) := by decide +kernel
theorem dX11_best_146 : decode cX11_best 146 = .ok (.iconst 3, 1) := by decide +kernel
theorem dX11_best_147 : decode cX11_best 147 = .ok (.isub, 1) := by decide +kernel
theorem dX11_best_148 : decode cX11_best 148 = .ok (.iaload, 1) := by decide +kernel
theorem dX11_best_149 : decode cX11_best 149 = .ok (.goto 5, 3) := by decide +kernel
theorem dX11_best_96 : decode cX11_best 96 = .ok (.iload 8, 2) := by decide +kernel
theorem dX11_best_98 : decode cX11_best 98 = .ok (.ifCond .ne 10, 3) := by decide +kernel
theorem dX11_best_108 : decode cX11_best 108 = .ok (.iload 8, 2) := by decide +kernel
theorem dX11_best_110 : decode cX11_best 110 = .ok (.iconst 1, 1) := by decide +kernel
theorem dX11_best_111 : decode cX11_best 111 = .ok (.if_icmp .ne 13, 3) := by decide +kernel
theorem dX11_best_124 : decode cX11_best 124 = .ok (.aload_n 0, 1) := by decide +kernel
theorem dX11_best_125 : decode cX11_best 125 = .ok (.getfield 419, 3) := by decide +kernel
theorem dX11_best_114 : decode cX11_best 114 = .ok (.aload_n 0, 1) := by decide +kernel
theorem dX11_best_115 : decode cX11_best 115 = .ok (.getfield 416, 3) := by decide +kernel
theorem dX11_best_118 : decode cX11_best 118 = .ok (.iload 4, 2) := by decide +kernel
theorem dX11_best_120 : decode cX11_best 120 = .ok (.isub, 1) := by decide +kernel
theorem dX11_best_121 : decode cX11_best 121 = .ok (.goto 7, 3) := by decide +kernel
theorem dX11_best_101 : decode cX11_best 101 = .ok (.aload_n 0, 1) := by decide +kernel
theorem dX11_best_102 : decode cX11_best 102 = .ok (.getfield 413, 3) := by decide +kernel
theorem dX11_best_105 : decode cX11_best 105 = .ok (.goto 23, 3) := by decide +kernel
theorem dX11_best_87 : decode cX11_best 87 = .ok (.bipush (-3), 2) := by decide +kernel
theorem dX11_best_154 : decode cX11_best 154 = .ok (.ireturn, 1) := by decide +kernel
theorem dX11_best_128 : decode cX11_best 128 = .ok (.ireturn, 1) := by decide +kernel
theorem dX11_best_89 : decode cX11_best 89 = .ok (.ireturn, 1) := by decide +kernel
theorem dX11_price_0 : decode cX11_price 0 = .ok (.aload_n 0, 1) := by decide +kernel
theorem dX11_price_1 : decode cX11_price 1 = .ok (.iload_n 1, 1) := by decide +kernel
theorem dX11_price_2 : decode cX11_price 2 = .ok (.invokevirtual 363, 3) := by decide +kernel
theorem dX11_price_5 : decode cX11_price 5 = .ok (.ifCond .eq 54, 3) := by decide +kernel
theorem dX11_price_59 : decode cX11_price 59 = .ok (.iconst (-1), 1) := by decide +kernel
theorem dX11_price_60 : decode cX11_price 60 = .ok (.ireturn, 1) := by decide +kernel
theorem dX11_price_8 : decode cX11_price 8 = .ok (.aload_n 0, 1) := by decide +kernel
theorem dX11_price_9 : decode cX11_price 9 = .ok (.iload_n 2, 1) := by decide +kernel
theorem dX11_price_10 : decode cX11_price 10 = .ok (.invokevirtual 267, 3) := by decide +kernel
theorem dX11_price_13 : decode cX11_price 13 = .ok (.ifCond .eq 46, 3) := by decide +kernel
theorem dX11_price_16 : decode cX11_price 16 = .ok (.aload_n 0, 1) := by decide +kernel
theorem dX11_price_17 : decode cX11_price 17 = .ok (.iload_n 3, 1) := by decide +kernel
theorem dX11_price_18 : decode cX11_price 18 = .ok (.invokevirtual 267, 3) := by decide +kernel
theorem dX11_price_21 : decode cX11_price 21 = .ok (.ifCond .eq 38, 3) := by decide +kernel
theorem dX11_price_24 : decode cX11_price 24 = .ok (.iload 4, 2) := by decide +kernel
theorem dX11_price_26 : decode cX11_price 26 = .ok (.i2l, 1) := by decide +kernel
theorem dX11_price_27 : decode cX11_price 27 = .ok (.lconst 0, 1) := by decide +kernel
theorem dX11_price_28 : decode cX11_price 28 = .ok (.ldc2_w 289, 3) := by decide +kernel
theorem dX11_price_31 : decode cX11_price 31 = .ok (.invokestatic 118, 3) := by decide +kernel
theorem dX11_price_34 : decode cX11_price 34 = .ok (.ifCond .eq 25, 3) := by decide +kernel
theorem dX11_price_37 : decode cX11_price 37 = .ok (.iload 5, 2) := by decide +kernel
theorem dX11_price_39 : decode cX11_price 39 = .ok (.i2l, 1) := by decide +kernel
theorem dX11_price_40 : decode cX11_price 40 = .ok (.lconst 0, 1) := by decide +kernel
theorem dX11_price_41 : decode cX11_price 41 = .ok (.ldc2_w 289, 3) := by decide +kernel
theorem dX11_price_44 : decode cX11_price 44 = .ok (.invokestatic 118, 3) := by decide +kernel
theorem dX11_price_47 : decode cX11_price 47 = .ok (.ifCond .eq 12, 3) := by decide +kernel
theorem dX11_price_50 : decode cX11_price 50 = .ok (.aload_n 0, 1) := by decide +kernel
theorem dX11_price_51 : decode cX11_price 51 = .ok (.iload 6, 2) := by decide +kernel
theorem dX11_price_53 : decode cX11_price 53 = .ok (.invokevirtual 306, 3) := by decide +kernel
theorem dX11_price_56 : decode cX11_price 56 = .ok (.ifCond .ne 5, 3) := by decide +kernel
theorem dX11_price_61 : decode cX11_price 61 = .ok (.aload_n 0, 1) := by decide +kernel
theorem dX11_price_62 : decode cX11_price 62 = .ok (.iload_n 1, 1) := by decide +kernel
theorem dX11_price_63 : decode cX11_price 63 = .ok (.iload_n 2, 1) := by decide +kernel
theorem dX11_price_64 : decode cX11_price 64 = .ok (.iload_n 3, 1) := by decide +kernel
theorem dX11_price_65 : decode cX11_price 65 = .ok (.iload 4, 2) := by decide +kernel
theorem dX11_price_67 : decode cX11_price 67 = .ok (.iload 5, 2) := by decide +kernel
theorem dX11_price_69 : decode cX11_price 69 = .ok (.iconst 0, 1) := by decide +kernel
theorem dX11_price_70 : decode cX11_price 70 = .ok (.iconst 0, 1) := by decide +kernel
theorem dX11_price_71 : decode cX11_price 71 = .ok (.iconst (-1), 1) := by decide +kernel
theorem dX11_price_72 : decode cX11_price 72 = .ok (.invokevirtual 430, 3) := by decide +kernel
theorem dX11_price_75 : decode cX11_price 75 = .ok (.aload_n 0, 1) := by decide +kernel
theorem dX11_price_76 : decode cX11_price 76 = .ok (.getfield 413, 3) := by decide +kernel
theorem dX11_price_79 : decode cX11_price 79 = .ok (.ifCond .ge 6, 3) := by decide +kernel
theorem dX11_price_85 : decode cX11_price 85 = .ok (.aload_n 0, 1) := by decide +kernel
theorem dX11_price_86 : decode cX11_price 86 = .ok (.getfield 413, 3) := by decide +kernel
theorem dX11_price_89 : decode cX11_price 89 = .ok (.istore 7, 2) := by decide +kernel
theorem dX11_price_91 : decode cX11_price 91 = .ok (.aload_n 0, 1) := by decide +kernel
theorem dX11_price_92 : decode cX11_price 92 = .ok (.iload_n 1, 1) := by decide +kernel
theorem dX11_price_93 : decode cX11_price 93 = .ok (.iload_n 2, 1) := by decide +kernel
theorem dX11_price_94 : decode cX11_price 94 = .ok (.iload_n 3, 1) := by decide +kernel
theorem dX11_price_95 : decode cX11_price 95 = .ok (.iload 4, 2) := by decide +kernel
theorem dX11_price_97 : decode cX11_price 97 = .ok (.iload 5, 2) := by decide +kernel
theorem dX11_price_99 : decode cX11_price 99 = .ok (.iconst 0, 1) := by decide +kernel
theorem dX11_price_100 : decode cX11_price 100 = .ok (.iconst 0, 1) := by decide +kernel
theorem dX11_price_101 : decode cX11_price 101 = .ok (.iload 6, 2) := by decide +kernel
theorem dX11_price_103 : decode cX11_price 103 = .ok (.invokevirtual 430, 3) := by decide +kernel
theorem dX11_price_106 : decode cX11_price 106 = .ok (.aload_n 0, 1) := by decide +kernel
theorem dX11_price_107 : decode cX11_price 107 = .ok (.getfield 413, 3) := by decide +kernel
theorem dX11_price_110 : decode cX11_price 110 = .ok (.ifCond .ge 8, 3) := by decide +kernel
theorem dX11_price_118 : decode cX11_price 118 = .ok (.iload 7, 2) := by decide +kernel
theorem dX11_price_120 : decode cX11_price 120 = .ok (.aload_n 0, 1) := by decide +kernel
theorem dX11_price_121 : decode cX11_price 121 = .ok (.getfield 413, 3) := by decide +kernel
theorem dX11_price_124 : decode cX11_price 124 = .ok (.isub, 1) := by decide +kernel
theorem dX11_price_113 : decode cX11_price 113 = .ok (.iload 7, 2) := by decide +kernel
theorem dX11_price_115 : decode cX11_price 115 = .ok (.goto 10, 3) := by decide +kernel
theorem dX11_price_82 : decode cX11_price 82 = .ok (.bipush (-3), 2) := by decide +kernel
theorem dX11_price_125 : decode cX11_price 125 = .ok (.ireturn, 1) := by decide +kernel
theorem dX11_price_84 : decode cX11_price 84 = .ok (.ireturn, 1) := by decide +kernel

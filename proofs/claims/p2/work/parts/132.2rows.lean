theorem kX11_sets_1 {a : Array Value} {s : State} (hts : ∀ w ∈ wsX11_sets, w.before a s = true) : (.fieldLink RX11 381 "SnowMulesModel" "goNode" "I" : Cond).before a s = true := hts _ (List.mem_of_getElem? (i := 1) (by decide +kernel))
theorem kX11_sets_2 {a : Array Value} {s : State} (hts : ∀ w ∈ wsX11_sets, w.before a s = true) : (.fieldLink RX11 384 "SnowMulesModel" "goDrops" "I" : Cond).before a s = true := hts _ (List.mem_of_getElem? (i := 2) (by decide +kernel))
theorem kX11_sets_3 {a : Array Value} {s : State} (hts : ∀ w ∈ wsX11_sets, w.before a s = true) : (.fieldLink RX11 387 "SnowMulesModel" "goHour" "I" : Cond).before a s = true := hts _ (List.mem_of_getElem? (i := 3) (by decide +kernel))
theorem kX11_sets_4 {a : Array Value} {s : State} (hts : ∀ w ∈ wsX11_sets, w.before a s = true) : (.fieldLink RX11 390 "SnowMulesModel" "goFelt" "I" : Cond).before a s = true := hts _ (List.mem_of_getElem? (i := 4) (by decide +kernel))
theorem kX11_sets_5 {a : Array Value} {s : State} (hts : ∀ w ∈ wsX11_sets, w.before a s = true) : (.fieldLink RX11 393 "SnowMulesModel" "goSalt" "I" : Cond).before a s = true := hts _ (List.mem_of_getElem? (i := 5) (by decide +kernel))
theorem kX11_sets_6 {a : Array Value} {s : State} (hts : ∀ w ∈ wsX11_sets, w.before a s = true) : (.fieldLink RX11 396 "SnowMulesModel" "goMore" "I" : Cond).before a s = true := hts _ (List.mem_of_getElem? (i := 6) (by decide +kernel))
theorem kX11_isJarLike_1 {a : Array Value} {s : State} (hts : ∀ w ∈ wsX11_isJarLike, w.before a s = true) : (.constantLong RX11 289 (99999) : Cond).before a s = true := hts _ (List.mem_of_getElem? (i := 1) (by decide +kernel))
theorem kX11_isJarLike_2 {a : Array Value} {s : State} (hts : ∀ w ∈ wsX11_isJarLike, w.before a s = true) : (.constantLong RX11 265 (9) : Cond).before a s = true := hts _ (List.mem_of_getElem? (i := 2) (by decide +kernel))
theorem kX11_canTry_1 {a : Array Value} {s : State} (hts : ∀ w ∈ wsX11_canTry, w.before a s = true) : (.fieldLink RX11 39 "SnowMulesModel" "said" "[I" : Cond).before a s = true := hts _ (List.mem_of_getElem? (i := 1) (by decide +kernel))
theorem kX11_canTry_2 {a : Array Value} {s : State} (hts : ∀ w ∈ wsX11_canTry, w.before a s = true) : (.constantLong RX11 289 (99999) : Cond).before a s = true := hts _ (List.mem_of_getElem? (i := 2) (by decide +kernel))
theorem iX11_sets_X11 : ∀ w ∈ wsX110, w ∈ wsX11_sets := by decide +kernel
theorem iX11_canTry_X11 : ∀ w ∈ wsX110, w ∈ wsX11_canTry := by decide +kernel
theorem dX11_sets_0 : decode cX11_sets 0 = .ok (.aload_n 0, 1) := by decide +kernel
theorem dX11_sets_1 : decode cX11_sets 1 = .ok (.iload_n 1, 1) := by decide +kernel
theorem dX11_sets_2 : decode cX11_sets 2 = .ok (.putfield 381, 3) := by decide +kernel
theorem dX11_sets_5 : decode cX11_sets 5 = .ok (.aload_n 0, 1) := by decide +kernel
theorem dX11_sets_6 : decode cX11_sets 6 = .ok (.iload_n 2, 1) := by decide +kernel
theorem dX11_sets_7 : decode cX11_sets 7 = .ok (.putfield 384, 3) := by decide +kernel
theorem dX11_sets_10 : decode cX11_sets 10 = .ok (.aload_n 0, 1) := by decide +kernel
theorem dX11_sets_11 : decode cX11_sets 11 = .ok (.iload_n 3, 1) := by decide +kernel
theorem dX11_sets_12 : decode cX11_sets 12 = .ok (.putfield 387, 3) := by decide +kernel
theorem dX11_sets_15 : decode cX11_sets 15 = .ok (.aload_n 0, 1) := by decide +kernel
theorem dX11_sets_16 : decode cX11_sets 16 = .ok (.iload 4, 2) := by decide +kernel
theorem dX11_sets_18 : decode cX11_sets 18 = .ok (.putfield 390, 3) := by decide +kernel
theorem dX11_sets_21 : decode cX11_sets 21 = .ok (.aload_n 0, 1) := by decide +kernel
theorem dX11_sets_22 : decode cX11_sets 22 = .ok (.iload 5, 2) := by decide +kernel
theorem dX11_sets_24 : decode cX11_sets 24 = .ok (.putfield 393, 3) := by decide +kernel
theorem dX11_sets_27 : decode cX11_sets 27 = .ok (.aload_n 0, 1) := by decide +kernel
theorem dX11_sets_28 : decode cX11_sets 28 = .ok (.iconst 0, 1) := by decide +kernel
theorem dX11_sets_29 : decode cX11_sets 29 = .ok (.putfield 396, 3) := by decide +kernel
theorem dX11_sets_32 : decode cX11_sets 32 = .ok (.return_, 1) := by decide +kernel
theorem dX11_isJarLike_0 : decode cX11_isJarLike 0 = .ok (.iload_n 0, 1) := by decide +kernel
theorem dX11_isJarLike_1 : decode cX11_isJarLike 1 = .ok (.i2l, 1) := by decide +kernel
theorem dX11_isJarLike_2 : decode cX11_isJarLike 2 = .ok (.lconst 0, 1) := by decide +kernel
theorem dX11_isJarLike_3 : decode cX11_isJarLike 3 = .ok (.ldc2_w 289, 3) := by decide +kernel
theorem dX11_isJarLike_6 : decode cX11_isJarLike 6 = .ok (.invokestatic 118, 3) := by decide +kernel
theorem dX11_isJarLike_9 : decode cX11_isJarLike 9 = .ok (.ifCond .eq 31, 3) := by decide +kernel
theorem dX11_isJarLike_40 : decode cX11_isJarLike 40 = .ok (.iconst 0, 1) := by decide +kernel
theorem dX11_isJarLike_41 : decode cX11_isJarLike 41 = .ok (.ireturn, 1) := by decide +kernel
theorem dX11_isJarLike_12 : decode cX11_isJarLike 12 = .ok (.iload_n 1, 1) := by decide +kernel
theorem dX11_isJarLike_13 : decode cX11_isJarLike 13 = .ok (.i2l, 1) := by decide +kernel
theorem dX11_isJarLike_14 : decode cX11_isJarLike 14 = .ok (.lconst 0, 1) := by decide +kernel
theorem dX11_isJarLike_15 : decode cX11_isJarLike 15 = .ok (.ldc2_w 265, 3) := by decide +kernel
theorem dX11_isJarLike_18 : decode cX11_isJarLike 18 = .ok (.invokestatic 118, 3) := by decide +kernel
theorem dX11_isJarLike_21 : decode cX11_isJarLike 21 = .ok (.ifCond .eq 19, 3) := by decide +kernel
theorem dX11_isJarLike_24 : decode cX11_isJarLike 24 = .ok (.iload_n 2, 1) := by decide +kernel
theorem dX11_isJarLike_25 : decode cX11_isJarLike 25 = .ok (.i2l, 1) := by decide +kernel
theorem dX11_isJarLike_26 : decode cX11_isJarLike 26 = .ok (.lconst 0, 1) := by decide +kernel
theorem dX11_isJarLike_27 : decode cX11_isJarLike 27 = .ok (.ldc2_w 265, 3) := by decide +kernel
theorem dX11_isJarLike_30 : decode cX11_isJarLike 30 = .ok (.invokestatic 118, 3) := by decide +kernel
theorem dX11_isJarLike_33 : decode cX11_isJarLike 33 = .ok (.ifCond .eq 7, 3) := by decide +kernel
theorem dX11_isJarLike_36 : decode cX11_isJarLike 36 = .ok (.iconst 1, 1) := by decide +kernel
theorem dX11_isJarLike_37 : decode cX11_isJarLike 37 = .ok (.goto 4, 3) := by decide +kernel
theorem dX11_canTry_0 : decode cX11_canTry 0 = .ok (.aload_n 0, 1) := by decide +kernel
theorem dX11_canTry_1 : decode cX11_canTry 1 = .ok (.iload_n 1, 1) := by decide +kernel
theorem dX11_canTry_2 : decode cX11_canTry 2 = .ok (.invokevirtual 363, 3) := by decide +kernel
theorem dX11_canTry_5 : decode cX11_canTry 5 = .ok (.ifCond .eq 40, 3) := by decide +kernel
theorem dX11_canTry_45 : decode cX11_canTry 45 = .ok (.iconst 0, 1) := by decide +kernel
theorem dX11_canTry_46 : decode cX11_canTry 46 = .ok (.ireturn, 1) := by decide +kernel
theorem dX11_canTry_8 : decode cX11_canTry 8 = .ok (.aload_n 0, 1) := by decide +kernel
theorem dX11_canTry_9 : decode cX11_canTry 9 = .ok (.getfield 39, 3) := by decide +kernel
theorem dX11_canTry_12 : decode cX11_canTry 12 = .ok (.bipush 8, 2) := by decide +kernel
theorem dX11_canTry_14 : decode cX11_canTry 14 = .ok (.iaload, 1) := by decide +kernel
theorem dX11_canTry_15 : decode cX11_canTry 15 = .ok (.ifCond .lt 30, 3) := by decide +kernel
theorem dX11_canTry_18 : decode cX11_canTry 18 = .ok (.iload_n 2, 1) := by decide +kernel
theorem dX11_canTry_19 : decode cX11_canTry 19 = .ok (.i2l, 1) := by decide +kernel
theorem dX11_canTry_20 : decode cX11_canTry 20 = .ok (.lconst 0, 1) := by decide +kernel
theorem dX11_canTry_21 : decode cX11_canTry 21 = .ok (.ldc2_w 289, 3) := by decide +kernel
theorem dX11_canTry_24 : decode cX11_canTry 24 = .ok (.invokestatic 118, 3) := by decide +kernel
theorem dX11_canTry_27 : decode cX11_canTry 27 = .ok (.ifCond .eq 18, 3) := by decide +kernel
theorem dX11_canTry_30 : decode cX11_canTry 30 = .ok (.iload_n 3, 1) := by decide +kernel
theorem dX11_canTry_31 : decode cX11_canTry 31 = .ok (.iload 4, 2) := by decide +kernel
theorem dX11_canTry_33 : decode cX11_canTry 33 = .ok (.iload 5, 2) := by decide +kernel
theorem dX11_canTry_35 : decode cX11_canTry 35 = .ok (.invokestatic 399, 3) := by decide +kernel
theorem dX11_canTry_38 : decode cX11_canTry 38 = .ok (.ifCond .eq 7, 3) := by decide +kernel
theorem dX11_canTry_41 : decode cX11_canTry 41 = .ok (.iconst 1, 1) := by decide +kernel
theorem dX11_canTry_42 : decode cX11_canTry 42 = .ok (.goto 4, 3) := by decide +kernel

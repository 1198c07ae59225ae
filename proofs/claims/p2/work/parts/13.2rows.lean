theorem kX11_at_1 {a : Array Value} {s : State} (hts : ∀ w ∈ wsX11_at, w.before a s = true) : (.constantLong RX11 371 (5) : Cond).before a s = true := hts _ (List.mem_of_getElem? (i := 1) (by decide +kernel))
theorem kX11_at_2 {a : Array Value} {s : State} (hts : ∀ w ∈ wsX11_at, w.before a s = true) : (.fieldLink RX11 39 "SnowMulesModel" "said" "[I" : Cond).before a s = true := hts _ (List.mem_of_getElem? (i := 2) (by decide +kernel))
theorem kX11_of_1 {a : Array Value} {s : State} (hts : ∀ w ∈ wsX11_of, w.before a s = true) : (.constantLong RX11 373 (8) : Cond).before a s = true := hts _ (List.mem_of_getElem? (i := 1) (by decide +kernel))
theorem kX11_wayEnd_1 {a : Array Value} {s : State} (hts : ∀ w ∈ wsX11_wayEnd, w.before a s = true) : (.fieldLink RX11 39 "SnowMulesModel" "said" "[I" : Cond).before a s = true := hts _ (List.mem_of_getElem? (i := 1) (by decide +kernel))
theorem kX11_isOfWay_1 {a : Array Value} {s : State} (hts : ∀ w ∈ wsX11_isOfWay, w.before a s = true) : (.fieldLink RX11 39 "SnowMulesModel" "said" "[I" : Cond).before a s = true := hts _ (List.mem_of_getElem? (i := 1) (by decide +kernel))
theorem kX11_lay_1 {a : Array Value} {s : State} (hts : ∀ w ∈ wsX11_lay, w.before a s = true) : (.fieldLink RX11 39 "SnowMulesModel" "said" "[I" : Cond).before a s = true := hts _ (List.mem_of_getElem? (i := 1) (by decide +kernel))
theorem kX11_sets_1 {a : Array Value} {s : State} (hts : ∀ w ∈ wsX11_sets, w.before a s = true) : (.fieldLink RX11 381 "SnowMulesModel" "goNode" "I" : Cond).before a s = true := hts _ (List.mem_of_getElem? (i := 1) (by decide +kernel))
theorem kX11_sets_2 {a : Array Value} {s : State} (hts : ∀ w ∈ wsX11_sets, w.before a s = true) : (.fieldLink RX11 384 "SnowMulesModel" "goDrops" "I" : Cond).before a s = true := hts _ (List.mem_of_getElem? (i := 2) (by decide +kernel))
theorem kX11_sets_3 {a : Array Value} {s : State} (hts : ∀ w ∈ wsX11_sets, w.before a s = true) : (.fieldLink RX11 387 "SnowMulesModel" "goHour" "I" : Cond).before a s = true := hts _ (List.mem_of_getElem? (i := 3) (by decide +kernel))
theorem kX11_sets_4 {a : Array Value} {s : State} (hts : ∀ w ∈ wsX11_sets, w.before a s = true) : (.fieldLink RX11 390 "SnowMulesModel" "goFelt" "I" : Cond).before a s = true := hts _ (List.mem_of_getElem? (i := 4) (by decide +kernel))
theorem kX11_sets_5 {a : Array Value} {s : State} (hts : ∀ w ∈ wsX11_sets, w.before a s = true) : (.fieldLink RX11 393 "SnowMulesModel" "goSalt" "I" : Cond).before a s = true := hts _ (List.mem_of_getElem? (i := 5) (by decide +kernel))
theorem kX11_sets_6 {a : Array Value} {s : State} (hts : ∀ w ∈ wsX11_sets, w.before a s = true) : (.fieldLink RX11 396 "SnowMulesModel" "goMore" "I" : Cond).before a s = true := hts _ (List.mem_of_getElem? (i := 6) (by decide +kernel))
theorem kX11_isJarLike_1 {a : Array Value} {s : State} (hts : ∀ w ∈ wsX11_isJarLike, w.before a s = true) : (.constantLong RX11 289 (99999) : Cond).before a s = true := hts _ (List.mem_of_getElem? (i := 1) (by decide +kernel))
theorem kX11_isJarLike_2 {a : Array Value} {s : State} (hts : ∀ w ∈ wsX11_isJarLike, w.before a s = true) : (.constantLong RX11 265 (9) : Cond).before a s = true := hts _ (List.mem_of_getElem? (i := 2) (by decide +kernel))
theorem kX11_canTry_1 {a : Array Value} {s : State} (hts : ∀ w ∈ wsX11_canTry, w.before a s = true) : (.fieldLink RX11 39 "SnowMulesModel" "said" "[I" : Cond).before a s = true := hts _ (List.mem_of_getElem? (i := 1) (by decide +kernel))
theorem kX11_canTry_2 {a : Array Value} {s : State} (hts : ∀ w ∈ wsX11_canTry, w.before a s = true) : (.constantLong RX11 289 (99999) : Cond).before a s = true := hts _ (List.mem_of_getElem? (i := 2) (by decide +kernel))
theorem kX11_count_1 {a : Array Value} {s : State} (hts : ∀ w ∈ wsX11_count, w.before a s = true) : (.fieldLink RX11 39 "SnowMulesModel" "said" "[I" : Cond).before a s = true := hts _ (List.mem_of_getElem? (i := 1) (by decide +kernel))
theorem kX11_count_2 {a : Array Value} {s : State} (hts : ∀ w ∈ wsX11_count, w.before a s = true) : (.fieldLink RX11 232 "SnowMulesModel" "laws" "I" : Cond).before a s = true := hts _ (List.mem_of_getElem? (i := 2) (by decide +kernel))
theorem kX11_count_3 {a : Array Value} {s : State} (hts : ∀ w ∈ wsX11_count, w.before a s = true) : (.fieldLink RX11 79 "SnowMulesModel" "taped" "I" : Cond).before a s = true := hts _ (List.mem_of_getElem? (i := 3) (by decide +kernel))
theorem kX11_canServe_1 {a : Array Value} {s : State} (hts : ∀ w ∈ wsX11_canServe, w.before a s = true) : (.fieldLink RX11 69 "SnowMulesModel" "servers" "[I" : Cond).before a s = true := hts _ (List.mem_of_getElem? (i := 1) (by decide +kernel))
theorem iX11_at_X11 : ∀ w ∈ wsX110, w ∈ wsX11_at := by decide +kernel
theorem iX11_wayEnd_X11 : ∀ w ∈ wsX110, w ∈ wsX11_wayEnd := by decide +kernel
theorem iX11_isOfWay_X11 : ∀ w ∈ wsX110, w ∈ wsX11_isOfWay := by decide +kernel
theorem iX11_lay_X11 : ∀ w ∈ wsX110, w ∈ wsX11_lay := by decide +kernel
theorem iX11_sets_X11 : ∀ w ∈ wsX110, w ∈ wsX11_sets := by decide +kernel
theorem iX11_canTry_X11 : ∀ w ∈ wsX110, w ∈ wsX11_canTry := by decide +kernel
theorem iX11_count_X11 : ∀ w ∈ wsX110, w ∈ wsX11_count := by decide +kernel
theorem iX11_canServe_X11 : ∀ w ∈ wsX110, w ∈ wsX11_canServe := by decide +kernel
theorem dX11_at_0 : decode cX11_at 0 = .ok (.aload_n 0, 1) := by decide +kernel
theorem dX11_at_1 : decode cX11_at 1 = .ok (.iload_n 1, 1) := by decide +kernel
theorem dX11_at_2 : decode cX11_at 2 = .ok (.invokevirtual 267, 3) := by decide +kernel
theorem dX11_at_5 : decode cX11_at 5 = .ok (.ifCond .eq 15, 3) := by decide +kernel
theorem dX11_at_20 : decode cX11_at 20 = .ok (.iconst (-1), 1) := by decide +kernel
theorem dX11_at_21 : decode cX11_at 21 = .ok (.ireturn, 1) := by decide +kernel
theorem dX11_at_8 : decode cX11_at 8 = .ok (.iload_n 2, 1) := by decide +kernel
theorem dX11_at_9 : decode cX11_at 9 = .ok (.i2l, 1) := by decide +kernel
theorem dX11_at_10 : decode cX11_at 10 = .ok (.lconst 0, 1) := by decide +kernel
theorem dX11_at_11 : decode cX11_at 11 = .ok (.ldc2_w 371, 3) := by decide +kernel
theorem dX11_at_14 : decode cX11_at 14 = .ok (.invokestatic 118, 3) := by decide +kernel
theorem dX11_at_17 : decode cX11_at 17 = .ok (.ifCond .ne 5, 3) := by decide +kernel
theorem dX11_at_22 : decode cX11_at 22 = .ok (.iload_n 2, 1) := by decide +kernel
theorem dX11_at_23 : decode cX11_at 23 = .ok (.iconst 4, 1) := by decide +kernel
theorem dX11_at_24 : decode cX11_at 24 = .ok (.if_icmp .ge 10, 3) := by decide +kernel
theorem dX11_at_34 : decode cX11_at 34 = .ok (.iload_n 2, 1) := by decide +kernel
theorem dX11_at_35 : decode cX11_at 35 = .ok (.iconst 4, 1) := by decide +kernel
theorem dX11_at_36 : decode cX11_at 36 = .ok (.if_icmp .ne 27, 3) := by decide +kernel
theorem dX11_at_63 : decode cX11_at 63 = .ok (.iconst 0, 1) := by decide +kernel
theorem dX11_at_64 : decode cX11_at 64 = .ok (.istore_n 3, 1) := by decide +kernel
theorem dX11_at_65 : decode cX11_at 65 = .ok (.iconst 0, 1) := by decide +kernel
theorem dX11_at_66 : decode cX11_at 66 = .ok (.istore 4, 2) := by decide +kernel
theorem dX11_at_68 : decode cX11_at 68 = .ok (.iload 4, 2) := by decide +kernel
theorem dX11_at_70 : decode cX11_at 70 = .ok (.aload_n 0, 1) := by decide +kernel
theorem dX11_at_71 : decode cX11_at 71 = .ok (.getfield 39, 3) := by decide +kernel
theorem dX11_at_74 : decode cX11_at 74 = .ok (.iconst 2, 1) := by decide +kernel
theorem dX11_at_75 : decode cX11_at 75 = .ok (.iaload, 1) := by decide +kernel
theorem dX11_at_76 : decode cX11_at 76 = .ok (.if_icmp .ge 28, 3) := by decide +kernel
theorem dX11_at_79 : decode cX11_at 79 = .ok (.iload_n 3, 1) := by decide +kernel
theorem dX11_at_80 : decode cX11_at 80 = .ok (.aload_n 0, 1) := by decide +kernel
theorem dX11_at_81 : decode cX11_at 81 = .ok (.iload 4, 2) := by decide +kernel
theorem dX11_at_83 : decode cX11_at 83 = .ok (.iconst 5, 1) := by decide +kernel
theorem dX11_at_84 : decode cX11_at 84 = .ok (.invokevirtual 283, 3) := by decide +kernel
theorem dX11_at_87 : decode cX11_at 87 = .ok (.iload_n 1, 1) := by decide +kernel
theorem dX11_at_88 : decode cX11_at 88 = .ok (.if_icmp .ne 7, 3) := by decide +kernel
theorem dX11_at_95 : decode cX11_at 95 = .ok (.iconst 0, 1) := by decide +kernel
theorem dX11_at_96 : decode cX11_at 96 = .ok (.iadd, 1) := by decide +kernel
theorem dX11_at_97 : decode cX11_at 97 = .ok (.istore_n 3, 1) := by decide +kernel
theorem dX11_at_98 : decode cX11_at 98 = .ok (.iinc 4 1, 3) := by decide +kernel
theorem dX11_at_101 : decode cX11_at 101 = .ok (.goto (-33), 3) := by decide +kernel
theorem dX11_at_91 : decode cX11_at 91 = .ok (.iconst 1, 1) := by decide +kernel
theorem dX11_at_92 : decode cX11_at 92 = .ok (.goto 4, 3) := by decide +kernel
theorem dX11_at_104 : decode cX11_at 104 = .ok (.iload_n 3, 1) := by decide +kernel
theorem dX11_at_105 : decode cX11_at 105 = .ok (.ireturn, 1) := by decide +kernel
theorem dX11_at_39 : decode cX11_at 39 = .ok (.aload_n 0, 1) := by decide +kernel
theorem dX11_at_40 : decode cX11_at 40 = .ok (.iload_n 1, 1) := by decide +kernel
theorem dX11_at_41 : decode cX11_at 41 = .ok (.aload_n 0, 1) := by decide +kernel
theorem dX11_at_42 : decode cX11_at 42 = .ok (.aload_n 0, 1) := by decide +kernel
theorem dX11_at_43 : decode cX11_at 43 = .ok (.getfield 39, 3) := by decide +kernel
theorem dX11_at_46 : decode cX11_at 46 = .ok (.iconst 5, 1) := by decide +kernel
theorem dX11_at_47 : decode cX11_at 47 = .ok (.iaload, 1) := by decide +kernel
theorem dX11_at_48 : decode cX11_at 48 = .ok (.invokevirtual 291, 3) := by decide +kernel
theorem dX11_at_51 : decode cX11_at 51 = .ok (.invokevirtual 294, 3) := by decide +kernel
theorem dX11_at_54 : decode cX11_at 54 = .ok (.ifCond .eq 7, 3) := by decide +kernel
theorem dX11_at_61 : decode cX11_at 61 = .ok (.iconst 0, 1) := by decide +kernel
theorem dX11_at_62 : decode cX11_at 62 = .ok (.ireturn, 1) := by decide +kernel
theorem dX11_at_57 : decode cX11_at 57 = .ok (.iconst 1, 1) := by decide +kernel
theorem dX11_at_58 : decode cX11_at 58 = .ok (.goto 4, 3) := by decide +kernel
theorem dX11_at_27 : decode cX11_at 27 = .ok (.aload_n 0, 1) := by decide +kernel
theorem dX11_at_28 : decode cX11_at 28 = .ok (.iload_n 1, 1) := by decide +kernel
theorem dX11_at_29 : decode cX11_at 29 = .ok (.iload_n 2, 1) := by decide +kernel
theorem dX11_at_30 : decode cX11_at 30 = .ok (.invokevirtual 257, 3) := by decide +kernel
theorem dX11_at_33 : decode cX11_at 33 = .ok (.ireturn, 1) := by decide +kernel
theorem dX11_of_0 : decode cX11_of 0 = .ok (.aload_n 0, 1) := by decide +kernel
theorem dX11_of_1 : decode cX11_of 1 = .ok (.iload_n 1, 1) := by decide +kernel
theorem dX11_of_2 : decode cX11_of 2 = .ok (.invokevirtual 280, 3) := by decide +kernel
theorem dX11_of_5 : decode cX11_of 5 = .ok (.ifCond .eq 15, 3) := by decide +kernel
theorem dX11_of_20 : decode cX11_of 20 = .ok (.bipush (-2), 2) := by decide +kernel
theorem dX11_of_22 : decode cX11_of 22 = .ok (.ireturn, 1) := by decide +kernel
theorem dX11_of_8 : decode cX11_of 8 = .ok (.iload_n 2, 1) := by decide +kernel
theorem dX11_of_9 : decode cX11_of 9 = .ok (.i2l, 1) := by decide +kernel
theorem dX11_of_10 : decode cX11_of 10 = .ok (.lconst 0, 1) := by decide +kernel
theorem dX11_of_11 : decode cX11_of 11 = .ok (.ldc2_w 373, 3) := by decide +kernel
theorem dX11_of_14 : decode cX11_of 14 = .ok (.invokestatic 118, 3) := by decide +kernel
theorem dX11_of_17 : decode cX11_of 17 = .ok (.ifCond .ne 6, 3) := by decide +kernel
theorem dX11_of_23 : decode cX11_of 23 = .ok (.aload_n 0, 1) := by decide +kernel
theorem dX11_of_24 : decode cX11_of 24 = .ok (.iload_n 1, 1) := by decide +kernel
theorem dX11_of_25 : decode cX11_of 25 = .ok (.iload_n 2, 1) := by decide +kernel
theorem dX11_of_26 : decode cX11_of 26 = .ok (.iconst 5, 1) := by decide +kernel
theorem dX11_of_27 : decode cX11_of 27 = .ok (.if_icmp .ge 9, 3) := by decide +kernel
theorem dX11_of_36 : decode cX11_of 36 = .ok (.iload_n 2, 1) := by decide +kernel
theorem dX11_of_37 : decode cX11_of 37 = .ok (.iconst 5, 1) := by decide +kernel
theorem dX11_of_38 : decode cX11_of 38 = .ok (.isub, 1) := by decide +kernel
theorem dX11_of_39 : decode cX11_of 39 = .ok (.invokevirtual 283, 3) := by decide +kernel
theorem dX11_of_42 : decode cX11_of 42 = .ok (.ireturn, 1) := by decide +kernel
theorem dX11_of_30 : decode cX11_of 30 = .ok (.iload_n 2, 1) := by decide +kernel
theorem dX11_of_31 : decode cX11_of 31 = .ok (.iconst 4, 1) := by decide +kernel
theorem dX11_of_32 : decode cX11_of 32 = .ok (.iadd, 1) := by decide +kernel
theorem dX11_of_33 : decode cX11_of 33 = .ok (.goto 6, 3) := by decide +kernel
theorem dX11_wayEnd_0 : decode cX11_wayEnd 0 = .ok (.aload_n 0, 1) := by decide +kernel
theorem dX11_wayEnd_1 : decode cX11_wayEnd 1 = .ok (.getfield 39, 3) := by decide +kernel
theorem dX11_wayEnd_4 : decode cX11_wayEnd 4 = .ok (.bipush 8, 2) := by decide +kernel
theorem dX11_wayEnd_6 : decode cX11_wayEnd 6 = .ok (.iaload, 1) := by decide +kernel
theorem dX11_wayEnd_7 : decode cX11_wayEnd 7 = .ok (.istore_n 1, 1) := by decide +kernel
theorem dX11_wayEnd_8 : decode cX11_wayEnd 8 = .ok (.iconst 0, 1) := by decide +kernel
theorem dX11_wayEnd_9 : decode cX11_wayEnd 9 = .ok (.istore_n 2, 1) := by decide +kernel
theorem dX11_wayEnd_10 : decode cX11_wayEnd 10 = .ok (.iload_n 2, 1) := by decide +kernel
theorem dX11_wayEnd_11 : decode cX11_wayEnd 11 = .ok (.aload_n 0, 1) := by decide +kernel
theorem dX11_wayEnd_12 : decode cX11_wayEnd 12 = .ok (.getfield 39, 3) := by decide +kernel
theorem dX11_wayEnd_15 : decode cX11_wayEnd 15 = .ok (.bipush 9, 2) := by decide +kernel
theorem dX11_wayEnd_17 : decode cX11_wayEnd 17 = .ok (.iaload, 1) := by decide +kernel
theorem dX11_wayEnd_18 : decode cX11_wayEnd 18 = .ok (.if_icmp .ge 24, 3) := by decide +kernel
theorem dX11_wayEnd_21 : decode cX11_wayEnd 21 = .ok (.aload_n 0, 1) := by decide +kernel
theorem dX11_wayEnd_22 : decode cX11_wayEnd 22 = .ok (.aload_n 0, 1) := by decide +kernel
theorem dX11_wayEnd_23 : decode cX11_wayEnd 23 = .ok (.getfield 39, 3) := by decide +kernel
theorem dX11_wayEnd_26 : decode cX11_wayEnd 26 = .ok (.bipush 10, 2) := by decide +kernel
theorem dX11_wayEnd_28 : decode cX11_wayEnd 28 = .ok (.iload_n 2, 1) := by decide +kernel
theorem dX11_wayEnd_29 : decode cX11_wayEnd 29 = .ok (.iadd, 1) := by decide +kernel
theorem dX11_wayEnd_30 : decode cX11_wayEnd 30 = .ok (.iaload, 1) := by decide +kernel
theorem dX11_wayEnd_31 : decode cX11_wayEnd 31 = .ok (.iload_n 1, 1) := by decide +kernel
theorem dX11_wayEnd_32 : decode cX11_wayEnd 32 = .ok (.invokevirtual 309, 3) := by decide +kernel
theorem dX11_wayEnd_35 : decode cX11_wayEnd 35 = .ok (.istore_n 1, 1) := by decide +kernel
theorem dX11_wayEnd_36 : decode cX11_wayEnd 36 = .ok (.iinc 2 1, 3) := by decide +kernel
theorem dX11_wayEnd_39 : decode cX11_wayEnd 39 = .ok (.goto (-29), 3) := by decide +kernel
theorem dX11_wayEnd_42 : decode cX11_wayEnd 42 = .ok (.iload_n 1, 1) := by decide +kernel
theorem dX11_wayEnd_43 : decode cX11_wayEnd 43 = .ok (.ireturn, 1) := by decide +kernel
theorem dX11_isOfWay_0 : decode cX11_isOfWay 0 = .ok (.aload_n 0, 1) := by decide +kernel
theorem dX11_isOfWay_1 : decode cX11_isOfWay 1 = .ok (.getfield 39, 3) := by decide +kernel
theorem dX11_isOfWay_4 : decode cX11_isOfWay 4 = .ok (.bipush 8, 2) := by decide +kernel
theorem dX11_isOfWay_6 : decode cX11_isOfWay 6 = .ok (.iaload, 1) := by decide +kernel
theorem dX11_isOfWay_7 : decode cX11_isOfWay 7 = .ok (.istore_n 2, 1) := by decide +kernel
theorem dX11_isOfWay_8 : decode cX11_isOfWay 8 = .ok (.iload_n 2, 1) := by decide +kernel
theorem dX11_isOfWay_9 : decode cX11_isOfWay 9 = .ok (.iload_n 1, 1) := by decide +kernel
theorem dX11_isOfWay_10 : decode cX11_isOfWay 10 = .ok (.if_icmp .ne 7, 3) := by decide +kernel
theorem dX11_isOfWay_17 : decode cX11_isOfWay 17 = .ok (.iconst 0, 1) := by decide +kernel
theorem dX11_isOfWay_18 : decode cX11_isOfWay 18 = .ok (.istore_n 3, 1) := by decide +kernel
theorem dX11_isOfWay_19 : decode cX11_isOfWay 19 = .ok (.iconst 0, 1) := by decide +kernel
theorem dX11_isOfWay_20 : decode cX11_isOfWay 20 = .ok (.istore 4, 2) := by decide +kernel
theorem dX11_isOfWay_22 : decode cX11_isOfWay 22 = .ok (.iload 4, 2) := by decide +kernel
theorem dX11_isOfWay_24 : decode cX11_isOfWay 24 = .ok (.aload_n 0, 1) := by decide +kernel
theorem dX11_isOfWay_25 : decode cX11_isOfWay 25 = .ok (.getfield 39, 3) := by decide +kernel
theorem dX11_isOfWay_28 : decode cX11_isOfWay 28 = .ok (.bipush 9, 2) := by decide +kernel
theorem dX11_isOfWay_30 : decode cX11_isOfWay 30 = .ok (.iaload, 1) := by decide +kernel
theorem dX11_isOfWay_31 : decode cX11_isOfWay 31 = .ok (.if_icmp .ge 40, 3) := by decide +kernel
theorem dX11_isOfWay_34 : decode cX11_isOfWay 34 = .ok (.aload_n 0, 1) := by decide +kernel
theorem dX11_isOfWay_35 : decode cX11_isOfWay 35 = .ok (.aload_n 0, 1) := by decide +kernel
theorem dX11_isOfWay_36 : decode cX11_isOfWay 36 = .ok (.getfield 39, 3) := by decide +kernel
theorem dX11_isOfWay_39 : decode cX11_isOfWay 39 = .ok (.bipush 10, 2) := by decide +kernel
theorem dX11_isOfWay_41 : decode cX11_isOfWay 41 = .ok (.iload 4, 2) := by decide +kernel
theorem dX11_isOfWay_43 : decode cX11_isOfWay 43 = .ok (.iadd, 1) := by decide +kernel
theorem dX11_isOfWay_44 : decode cX11_isOfWay 44 = .ok (.iaload, 1) := by decide +kernel
theorem dX11_isOfWay_45 : decode cX11_isOfWay 45 = .ok (.iload_n 2, 1) := by decide +kernel
theorem dX11_isOfWay_46 : decode cX11_isOfWay 46 = .ok (.invokevirtual 309, 3) := by decide +kernel
theorem dX11_isOfWay_49 : decode cX11_isOfWay 49 = .ok (.istore_n 2, 1) := by decide +kernel
theorem dX11_isOfWay_50 : decode cX11_isOfWay 50 = .ok (.iload_n 3, 1) := by decide +kernel
theorem dX11_isOfWay_51 : decode cX11_isOfWay 51 = .ok (.ifCond .ne 8, 3) := by decide +kernel
theorem dX11_isOfWay_54 : decode cX11_isOfWay 54 = .ok (.iload_n 2, 1) := by decide +kernel
theorem dX11_isOfWay_55 : decode cX11_isOfWay 55 = .ok (.iload_n 1, 1) := by decide +kernel
theorem dX11_isOfWay_56 : decode cX11_isOfWay 56 = .ok (.if_icmp .ne 7, 3) := by decide +kernel
theorem dX11_isOfWay_63 : decode cX11_isOfWay 63 = .ok (.iconst 0, 1) := by decide +kernel
theorem dX11_isOfWay_64 : decode cX11_isOfWay 64 = .ok (.istore_n 3, 1) := by decide +kernel
theorem dX11_isOfWay_65 : decode cX11_isOfWay 65 = .ok (.iinc 4 1, 3) := by decide +kernel
theorem dX11_isOfWay_68 : decode cX11_isOfWay 68 = .ok (.goto (-46), 3) := by decide +kernel
theorem dX11_isOfWay_59 : decode cX11_isOfWay 59 = .ok (.iconst 1, 1) := by decide +kernel
theorem dX11_isOfWay_60 : decode cX11_isOfWay 60 = .ok (.goto 4, 3) := by decide +kernel
theorem dX11_isOfWay_71 : decode cX11_isOfWay 71 = .ok (.iload_n 3, 1) := by decide +kernel
theorem dX11_isOfWay_72 : decode cX11_isOfWay 72 = .ok (.ireturn, 1) := by decide +kernel
theorem dX11_isOfWay_13 : decode cX11_isOfWay 13 = .ok (.iconst 1, 1) := by decide +kernel
theorem dX11_isOfWay_14 : decode cX11_isOfWay 14 = .ok (.goto 4, 3) := by decide +kernel
theorem dX11_lay_0 : decode cX11_lay 0 = .ok (.aload_n 0, 1) := by decide +kernel
theorem dX11_lay_1 : decode cX11_lay 1 = .ok (.getfield 39, 3) := by decide +kernel
theorem dX11_lay_4 : decode cX11_lay 4 = .ok (.bipush 8, 2) := by decide +kernel
theorem dX11_lay_6 : decode cX11_lay 6 = .ok (.iaload, 1) := by decide +kernel
theorem dX11_lay_7 : decode cX11_lay 7 = .ok (.ifCond .lt 23, 3) := by decide +kernel
theorem dX11_lay_30 : decode cX11_lay 30 = .ok (.iconst (-1), 1) := by decide +kernel
theorem dX11_lay_31 : decode cX11_lay 31 = .ok (.ireturn, 1) := by decide +kernel
theorem dX11_lay_10 : decode cX11_lay 10 = .ok (.aload_n 0, 1) := by decide +kernel
theorem dX11_lay_11 : decode cX11_lay 11 = .ok (.iload_n 1, 1) := by decide +kernel
theorem dX11_lay_12 : decode cX11_lay 12 = .ok (.invokevirtual 306, 3) := by decide +kernel
theorem dX11_lay_15 : decode cX11_lay 15 = .ok (.ifCond .eq 15, 3) := by decide +kernel
theorem dX11_lay_18 : decode cX11_lay 18 = .ok (.aload_n 0, 1) := by decide +kernel
theorem dX11_lay_19 : decode cX11_lay 19 = .ok (.getfield 39, 3) := by decide +kernel
theorem dX11_lay_22 : decode cX11_lay 22 = .ok (.bipush 9, 2) := by decide +kernel
theorem dX11_lay_24 : decode cX11_lay 24 = .ok (.iaload, 1) := by decide +kernel
theorem dX11_lay_25 : decode cX11_lay 25 = .ok (.bipush 6, 2) := by decide +kernel
theorem dX11_lay_27 : decode cX11_lay 27 = .ok (.if_icmp .ne 5, 3) := by decide +kernel
theorem dX11_lay_32 : decode cX11_lay 32 = .ok (.aload_n 0, 1) := by decide +kernel
theorem dX11_lay_33 : decode cX11_lay 33 = .ok (.iload_n 1, 1) := by decide +kernel
theorem dX11_lay_34 : decode cX11_lay 34 = .ok (.aload_n 0, 1) := by decide +kernel
theorem dX11_lay_35 : decode cX11_lay 35 = .ok (.invokevirtual 375, 3) := by decide +kernel
theorem dX11_lay_38 : decode cX11_lay 38 = .ok (.invokevirtual 309, 3) := by decide +kernel
theorem dX11_lay_41 : decode cX11_lay 41 = .ok (.istore_n 2, 1) := by decide +kernel
theorem dX11_lay_42 : decode cX11_lay 42 = .ok (.iload_n 2, 1) := by decide +kernel
theorem dX11_lay_43 : decode cX11_lay 43 = .ok (.ifCond .lt 11, 3) := by decide +kernel
theorem dX11_lay_54 : decode cX11_lay 54 = .ok (.iconst (-1), 1) := by decide +kernel
theorem dX11_lay_55 : decode cX11_lay 55 = .ok (.ireturn, 1) := by decide +kernel
theorem dX11_lay_46 : decode cX11_lay 46 = .ok (.aload_n 0, 1) := by decide +kernel
theorem dX11_lay_47 : decode cX11_lay 47 = .ok (.iload_n 2, 1) := by decide +kernel
theorem dX11_lay_48 : decode cX11_lay 48 = .ok (.invokevirtual 378, 3) := by decide +kernel
theorem dX11_lay_51 : decode cX11_lay 51 = .ok (.ifCond .eq 5, 3) := by decide +kernel
theorem dX11_lay_56 : decode cX11_lay 56 = .ok (.aload_n 0, 1) := by decide +kernel
theorem dX11_lay_57 : decode cX11_lay 57 = .ok (.getfield 39, 3) := by decide +kernel
theorem dX11_lay_60 : decode cX11_lay 60 = .ok (.bipush 10, 2) := by decide +kernel
theorem dX11_lay_62 : decode cX11_lay 62 = .ok (.aload_n 0, 1) := by decide +kernel
theorem dX11_lay_63 : decode cX11_lay 63 = .ok (.getfield 39, 3) := by decide +kernel
theorem dX11_lay_66 : decode cX11_lay 66 = .ok (.bipush 9, 2) := by decide +kernel
theorem dX11_lay_68 : decode cX11_lay 68 = .ok (.iaload, 1) := by decide +kernel
theorem dX11_lay_69 : decode cX11_lay 69 = .ok (.iadd, 1) := by decide +kernel
theorem dX11_lay_70 : decode cX11_lay 70 = .ok (.iload_n 1, 1) := by decide +kernel
theorem dX11_lay_71 : decode cX11_lay 71 = .ok (.iastore, 1) := by decide +kernel
theorem dX11_lay_72 : decode cX11_lay 72 = .ok (.aload_n 0, 1) := by decide +kernel
theorem dX11_lay_73 : decode cX11_lay 73 = .ok (.getfield 39, 3) := by decide +kernel
theorem dX11_lay_76 : decode cX11_lay 76 = .ok (.bipush 9, 2) := by decide +kernel
theorem dX11_lay_78 : decode cX11_lay 78 = .ok (.dup2, 1) := by decide +kernel
theorem dX11_lay_79 : decode cX11_lay 79 = .ok (.iaload, 1) := by decide +kernel
theorem dX11_lay_80 : decode cX11_lay 80 = .ok (.iconst 1, 1) := by decide +kernel
theorem dX11_lay_81 : decode cX11_lay 81 = .ok (.iadd, 1) := by decide +kernel
theorem dX11_lay_82 : decode cX11_lay 82 = .ok (.iastore, 1) := by decide +kernel
theorem dX11_lay_83 : decode cX11_lay 83 = .ok (.aload_n 0, 1) := by decide +kernel
theorem dX11_lay_84 : decode cX11_lay 84 = .ok (.getfield 39, 3) := by decide +kernel
theorem dX11_lay_87 : decode cX11_lay 87 = .ok (.bipush 9, 2) := by decide +kernel
theorem dX11_lay_89 : decode cX11_lay 89 = .ok (.iaload, 1) := by decide +kernel
theorem dX11_lay_90 : decode cX11_lay 90 = .ok (.ireturn, 1) := by decide +kernel
theorem dX11_sets_0 : decode cX11_sets 0 = .ok (.aload_n 0, 1) := by decide +kernel
theorem dX11_sets_1 : decode cX11_sets 1 = .ok (.iload_n 1, 1) := by decide +kernel
theorem dX11_sets_2 : decode cX11_sets 2 = .ok (.putfield 381, 3) := by decide +kernel
theorem dX11_sets_5 : decode cX11_sets 5 = .ok (.aload_n 0, 1) := by decide +kernel
theorem dX11_sets_6 : decode cX11_sets 6 = .ok (.iload_n 2, 1) := by decide +kernel
theorem dX11_sets_7 : decode cX11_sets 7 = .ok (.putfield 384, 3) := by decide +kernel
theorem dX11_sets_10 : decode cX11_sets 10 = .ok (.aload_n 0, 1) := by decide +kernel
theorem dX11_sets_11 : decode cX11_sets 11 = .ok (.iload_n 3, 1) := by decide +kernel
theorem dX11_sets_12 : decode cX11_sets 12 = .ok (.putfield 387, 3) := by decide +kernel
theorem dX11_sets_15 : decode cX11_sets 15 = .ok (.aload_n 0, 1) := by decide +kernel
theorem dX11_sets_16 : decode cX11_sets 16 = .ok (.iload 4, 2) := by decide +kernel
theorem dX11_sets_18 : decode cX11_sets 18 = .ok (.putfield 390, 3) := by decide +kernel
theorem dX11_sets_21 : decode cX11_sets 21 = .ok (.aload_n 0, 1) := by decide +kernel
theorem dX11_sets_22 : decode cX11_sets 22 = .ok (.iload 5, 2) := by decide +kernel
theorem dX11_sets_24 : decode cX11_sets 24 = .ok (.putfield 393, 3) := by decide +kernel
theorem dX11_sets_27 : decode cX11_sets 27 = .ok (.aload_n 0, 1) := by decide +kernel
theorem dX11_sets_28 : decode cX11_sets 28 = .ok (.iconst 0, 1) := by decide +kernel
theorem dX11_sets_29 : decode cX11_sets 29 = .ok (.putfield 396, 3) := by decide +kernel
theorem dX11_sets_32 : decode cX11_sets 32 = .ok (.return_, 1) := by decide +kernel
theorem dX11_isJarLike_0 : decode cX11_isJarLike 0 = .ok (.iload_n 0, 1) := by decide +kernel
theorem dX11_isJarLike_1 : decode cX11_isJarLike 1 = .ok (.i2l, 1) := by decide +kernel
theorem dX11_isJarLike_2 : decode cX11_isJarLike 2 = .ok (.lconst 0, 1) := by decide +kernel
theorem dX11_isJarLike_3 : decode cX11_isJarLike 3 = .ok (.ldc2_w 289, 3) := by decide +kernel
theorem dX11_isJarLike_6 : decode cX11_isJarLike 6 = .ok (.invokestatic 118, 3) := by decide +kernel
theorem dX11_isJarLike_9 : decode cX11_isJarLike 9 = .ok (.ifCond .eq 31, 3) := by decide +kernel
theorem dX11_isJarLike_40 : decode cX11_isJarLike 40 = .ok (.iconst 0, 1) := by decide +kernel
theorem dX11_isJarLike_41 : decode cX11_isJarLike 41 = .ok (.ireturn, 1) := by decide +kernel
theorem dX11_isJarLike_12 : decode cX11_isJarLike 12 = .ok (.iload_n 1, 1) := by decide +kernel
theorem dX11_isJarLike_13 : decode cX11_isJarLike 13 = .ok (.i2l, 1) := by decide +kernel
theorem dX11_isJarLike_14 : decode cX11_isJarLike 14 = .ok (.lconst 0, 1) := by decide +kernel
theorem dX11_isJarLike_15 : decode cX11_isJarLike 15 = .ok (.ldc2_w 265, 3) := by decide +kernel
theorem dX11_isJarLike_18 : decode cX11_isJarLike 18 = .ok (.invokestatic 118, 3) := by decide +kernel
theorem dX11_isJarLike_21 : decode cX11_isJarLike 21 = .ok (.ifCond .eq 19, 3) := by decide +kernel
theorem dX11_isJarLike_24 : decode cX11_isJarLike 24 = .ok (.iload_n 2, 1) := by decide +kernel
theorem dX11_isJarLike_25 : decode cX11_isJarLike 25 = .ok (.i2l, 1) := by decide +kernel
theorem dX11_isJarLike_26 : decode cX11_isJarLike 26 = .ok (.lconst 0, 1) := by decide +kernel
theorem dX11_isJarLike_27 : decode cX11_isJarLike 27 = .ok (.ldc2_w 265, 3) := by decide +kernel
theorem dX11_isJarLike_30 : decode cX11_isJarLike 30 = .ok (.invokestatic 118, 3) := by decide +kernel
theorem dX11_isJarLike_33 : decode cX11_isJarLike 33 = .ok (.ifCond .eq 7, 3) := by decide +kernel
theorem dX11_isJarLike_36 : decode cX11_isJarLike 36 = .ok (.iconst 1, 1) := by decide +kernel
theorem dX11_isJarLike_37 : decode cX11_isJarLike 37 = .ok (.goto 4, 3) := by decide +kernel
theorem dX11_canTry_0 : decode cX11_canTry 0 = .ok (.aload_n 0, 1) := by decide +kernel
theorem dX11_canTry_1 : decode cX11_canTry 1 = .ok (.iload_n 1, 1) := by decide +kernel
theorem dX11_canTry_2 : decode cX11_canTry 2 = .ok (.invokevirtual 363, 3) := by decide +kernel
theorem dX11_canTry_5 : decode cX11_canTry 5 = .ok (.ifCond .eq 40, 3) := by decide +kernel
theorem dX11_canTry_45 : decode cX11_canTry 45 = .ok (.iconst 0, 1) := by decide +kernel
theorem dX11_canTry_46 : decode cX11_canTry 46 = .ok (.ireturn, 1) := by decide +kernel
theorem dX11_canTry_8 : decode cX11_canTry 8 = .ok (.aload_n 0, 1) := by decide +kernel
theorem dX11_canTry_9 : decode cX11_canTry 9 = .ok (.getfield 39, 3) := by decide +kernel
theorem dX11_canTry_12 : decode cX11_canTry 12 = .ok (.bipush 8, 2) := by decide +kernel
theorem dX11_canTry_14 : decode cX11_canTry 14 = .ok (.iaload, 1) := by decide +kernel
theorem dX11_canTry_15 : decode cX11_canTry 15 = .ok (.ifCond .lt 30, 3) := by decide +kernel
theorem dX11_canTry_18 : decode cX11_canTry 18 = .ok (.iload_n 2, 1) := by decide +kernel
theorem dX11_canTry_19 : decode cX11_canTry 19 = .ok (.i2l, 1) := by decide +kernel
theorem dX11_canTry_20 : decode cX11_canTry 20 = .ok (.lconst 0, 1) := by decide +kernel
theorem dX11_canTry_21 : decode cX11_canTry 21 = .ok (.ldc2_w 289, 3) := by decide +kernel
theorem dX11_canTry_24 : decode cX11_canTry 24 = .ok (.invokestatic 118, 3) := by decide +kernel
theorem dX11_canTry_27 : decode cX11_canTry 27 = .ok (.ifCond .eq 18, 3) := by decide +kernel
theorem dX11_canTry_30 : decode cX11_canTry 30 = .ok (.iload_n 3, 1) := by decide +kernel
theorem dX11_canTry_31 : decode cX11_canTry 31 = .ok (.iload 4, 2) := by decide +kernel
theorem dX11_canTry_33 : decode cX11_canTry 33 = .ok (.iload 5, 2) := by decide +kernel
theorem dX11_canTry_35 : decode cX11_canTry 35 = .ok (.invokestatic 399, 3) := by decide +kernel
theorem dX11_canTry_38 : decode cX11_canTry 38 = .ok (.ifCond .eq 7, 3) := by decide +kernel
theorem dX11_canTry_41 : decode cX11_canTry 41 = .ok (.iconst 1, 1) := by decide +kernel
theorem dX11_canTry_42 : decode cX11_canTry 42 = .ok (.goto 4, 3) := by decide +kernel
theorem dX11_count_0 : decode cX11_count 0 = .ok (.iload_n 1, 1) := by decide +kernel
theorem dX11_count_1 : decode cX11_count 1 = .ok (.tableswitch 133 0 10 #[59, 59, 59, 66, 71, 78, 89, 89, 98, 120, 128], 59) := by decide +kernel
theorem dX11_count_134 : decode cX11_count 134 = .ok (.iconst (-1), 1) := by decide +kernel
theorem dX11_count_135 : decode cX11_count 135 = .ok (.ireturn, 1) := by decide +kernel
theorem dX11_count_60 : decode cX11_count 60 = .ok (.aload_n 0, 1) := by decide +kernel
theorem dX11_count_61 : decode cX11_count 61 = .ok (.getfield 39, 3) := by decide +kernel
theorem dX11_count_64 : decode cX11_count 64 = .ok (.iload_n 1, 1) := by decide +kernel
theorem dX11_count_65 : decode cX11_count 65 = .ok (.iaload, 1) := by decide +kernel
theorem dX11_count_66 : decode cX11_count 66 = .ok (.ireturn, 1) := by decide +kernel
theorem dX11_count_67 : decode cX11_count 67 = .ok (.aload_n 0, 1) := by decide +kernel
theorem dX11_count_68 : decode cX11_count 68 = .ok (.getfield 232, 3) := by decide +kernel
theorem dX11_count_71 : decode cX11_count 71 = .ok (.ireturn, 1) := by decide +kernel
theorem dX11_count_72 : decode cX11_count 72 = .ok (.aload_n 0, 1) := by decide +kernel
theorem dX11_count_73 : decode cX11_count 73 = .ok (.getfield 39, 3) := by decide +kernel
theorem dX11_count_76 : decode cX11_count 76 = .ok (.iconst 5, 1) := by decide +kernel
theorem dX11_count_77 : decode cX11_count 77 = .ok (.iaload, 1) := by decide +kernel
theorem dX11_count_78 : decode cX11_count 78 = .ok (.ireturn, 1) := by decide +kernel
theorem dX11_count_79 : decode cX11_count 79 = .ok (.aload_n 0, 1) := by decide +kernel
theorem dX11_count_80 : decode cX11_count 80 = .ok (.aload_n 0, 1) := by decide +kernel
theorem dX11_count_81 : decode cX11_count 81 = .ok (.getfield 39, 3) := by decide +kernel
theorem dX11_count_84 : decode cX11_count 84 = .ok (.iconst 5, 1) := by decide +kernel
theorem dX11_count_85 : decode cX11_count 85 = .ok (.iaload, 1) := by decide +kernel
theorem dX11_count_86 : decode cX11_count 86 = .ok (.invokevirtual 291, 3) := by decide +kernel
theorem dX11_count_89 : decode cX11_count 89 = .ok (.ireturn, 1) := by decide +kernel
theorem dX11_count_90 : decode cX11_count 90 = .ok (.aload_n 0, 1) := by decide +kernel
theorem dX11_count_91 : decode cX11_count 91 = .ok (.getfield 39, 3) := by decide +kernel
theorem dX11_count_94 : decode cX11_count 94 = .ok (.iload_n 1, 1) := by decide +kernel
theorem dX11_count_95 : decode cX11_count 95 = .ok (.iconst 3, 1) := by decide +kernel
theorem dX11_count_96 : decode cX11_count 96 = .ok (.isub, 1) := by decide +kernel
theorem dX11_count_97 : decode cX11_count 97 = .ok (.iaload, 1) := by decide +kernel
theorem dX11_count_98 : decode cX11_count 98 = .ok (.ireturn, 1) := by decide +kernel
theorem dX11_count_99 : decode cX11_count 99 = .ok (.aload_n 0, 1) := by decide +kernel
theorem dX11_count_100 : decode cX11_count 100 = .ok (.getfield 39, 3) := by decide +kernel
theorem dX11_count_103 : decode cX11_count 103 = .ok (.bipush 8, 2) := by decide +kernel
theorem dX11_count_105 : decode cX11_count 105 = .ok (.iaload, 1) := by decide +kernel
theorem dX11_count_106 : decode cX11_count 106 = .ok (.ifCond .ge 7, 3) := by decide +kernel
theorem dX11_count_113 : decode cX11_count 113 = .ok (.aload_n 0, 1) := by decide +kernel
theorem dX11_count_114 : decode cX11_count 114 = .ok (.getfield 39, 3) := by decide +kernel
theorem dX11_count_117 : decode cX11_count 117 = .ok (.bipush 9, 2) := by decide +kernel
theorem dX11_count_119 : decode cX11_count 119 = .ok (.iaload, 1) := by decide +kernel
theorem dX11_count_120 : decode cX11_count 120 = .ok (.ireturn, 1) := by decide +kernel
theorem dX11_count_109 : decode cX11_count 109 = .ok (.iconst (-1), 1) := by decide +kernel
theorem dX11_count_110 : decode cX11_count 110 = .ok (.goto 10, 3) := by decide +kernel
theorem dX11_count_121 : decode cX11_count 121 = .ok (.aload_n 0, 1) := by decide +kernel
theorem dX11_count_122 : decode cX11_count 122 = .ok (.getfield 39, 3) := by decide +kernel
theorem dX11_count_125 : decode cX11_count 125 = .ok (.bipush 7, 2) := by decide +kernel
theorem dX11_count_127 : decode cX11_count 127 = .ok (.iaload, 1) := by decide +kernel
theorem dX11_count_128 : decode cX11_count 128 = .ok (.ireturn, 1) := by decide +kernel
theorem dX11_count_129 : decode cX11_count 129 = .ok (.aload_n 0, 1) := by decide +kernel
theorem dX11_count_130 : decode cX11_count 130 = .ok (.getfield 79, 3) := by decide +kernel
theorem dX11_count_133 : decode cX11_count 133 = .ok (.ireturn, 1) := by decide +kernel
theorem dX11_bits_0 : decode cX11_bits 0 = .ok (.iconst 0, 1) := by decide +kernel
theorem dX11_bits_1 : decode cX11_bits 1 = .ok (.istore_n 1, 1) := by decide +kernel
theorem dX11_bits_2 : decode cX11_bits 2 = .ok (.iload_n 0, 1) := by decide +kernel
theorem dX11_bits_3 : decode cX11_bits 3 = .ok (.istore_n 2, 1) := by decide +kernel
theorem dX11_bits_4 : decode cX11_bits 4 = .ok (.iload_n 2, 1) := by decide +kernel
theorem dX11_bits_5 : decode cX11_bits 5 = .ok (.ifCond .eq 15, 3) := by decide +kernel
theorem dX11_bits_8 : decode cX11_bits 8 = .ok (.iinc 1 1, 3) := by decide +kernel
theorem dX11_bits_11 : decode cX11_bits 11 = .ok (.iload_n 2, 1) := by decide +kernel
theorem dX11_bits_12 : decode cX11_bits 12 = .ok (.iload_n 2, 1) := by decide +kernel
theorem dX11_bits_13 : decode cX11_bits 13 = .ok (.iconst 1, 1) := by decide +kernel
theorem dX11_bits_14 : decode cX11_bits 14 = .ok (.isub, 1) := by decide +kernel
theorem dX11_bits_15 : decode cX11_bits 15 = .ok (.iand, 1) := by decide +kernel
theorem dX11_bits_16 : decode cX11_bits 16 = .ok (.istore_n 2, 1) := by decide +kernel
theorem dX11_bits_17 : decode cX11_bits 17 = .ok (.goto (-13), 3) := by decide +kernel
theorem dX11_bits_20 : decode cX11_bits 20 = .ok (.iload_n 1, 1) := by decide +kernel
theorem dX11_bits_21 : decode cX11_bits 21 = .ok (.ireturn, 1) := by decide +kernel
theorem dX11_canServe_0 : decode cX11_canServe 0 = .ok (.iconst 1, 1) := by decide +kernel
theorem dX11_canServe_1 : decode cX11_canServe 1 = .ok (.istore_n 3, 1) := by decide +kernel
theorem dX11_canServe_2 : decode cX11_canServe 2 = .ok (.iload_n 3, 1) := by decide +kernel
theorem dX11_canServe_3 : decode cX11_canServe 3 = .ok (.bipush 64, 2) := by decide +kernel
theorem dX11_canServe_5 : decode cX11_canServe 5 = .ok (.if_icmp .ge 83, 3) := by decide +kernel
theorem dX11_canServe_8 : decode cX11_canServe 8 = .ok (.iload_n 3, 1) := by decide +kernel
theorem dX11_canServe_9 : decode cX11_canServe 9 = .ok (.iload_n 1, 1) := by decide +kernel
theorem dX11_canServe_10 : decode cX11_canServe 10 = .ok (.iconst (-1), 1) := by decide +kernel
theorem dX11_canServe_11 : decode cX11_canServe 11 = .ok (.ixor, 1) := by decide +kernel
theorem dX11_canServe_12 : decode cX11_canServe 12 = .ok (.iand, 1) := by decide +kernel
theorem dX11_canServe_13 : decode cX11_canServe 13 = .ok (.ifCond .eq 6, 3) := by decide +kernel
theorem dX11_canServe_19 : decode cX11_canServe 19 = .ok (.iconst 0, 1) := by decide +kernel
theorem dX11_canServe_20 : decode cX11_canServe 20 = .ok (.istore 4, 2) := by decide +kernel
theorem dX11_canServe_22 : decode cX11_canServe 22 = .ok (.iconst 0, 1) := by decide +kernel
theorem dX11_canServe_23 : decode cX11_canServe 23 = .ok (.istore 5, 2) := by decide +kernel
theorem dX11_canServe_25 : decode cX11_canServe 25 = .ok (.iload 5, 2) := by decide +kernel
theorem dX11_canServe_27 : decode cX11_canServe 27 = .ok (.bipush 6, 2) := by decide +kernel
theorem dX11_canServe_29 : decode cX11_canServe 29 = .ok (.if_icmp .ge 35, 3) := by decide +kernel
theorem dX11_canServe_32 : decode cX11_canServe 32 = .ok (.iload 4, 2) := by decide +kernel
theorem dX11_canServe_34 : decode cX11_canServe 34 = .ok (.iload_n 3, 1) := by decide +kernel
theorem dX11_canServe_35 : decode cX11_canServe 35 = .ok (.iload 5, 2) := by decide +kernel
theorem dX11_canServe_37 : decode cX11_canServe 37 = .ok (.ishr, 1) := by decide +kernel
theorem dX11_canServe_38 : decode cX11_canServe 38 = .ok (.iconst 1, 1) := by decide +kernel
theorem dX11_canServe_39 : decode cX11_canServe 39 = .ok (.iand, 1) := by decide +kernel
theorem dX11_canServe_40 : decode cX11_canServe 40 = .ok (.iconst 1, 1) := by decide +kernel
theorem dX11_canServe_41 : decode cX11_canServe 41 = .ok (.if_icmp .ne 13, 3) := by decide +kernel
theorem dX11_canServe_44 : decode cX11_canServe 44 = .ok (.aload_n 0, 1) := by decide +kernel
theorem dX11_canServe_45 : decode cX11_canServe 45 = .ok (.getfield 69, 3) := by decide +kernel
theorem dX11_canServe_48 : decode cX11_canServe 48 = .ok (.iload 5, 2) := by decide +kernel
theorem dX11_canServe_50 : decode cX11_canServe 50 = .ok (.iaload, 1) := by decide +kernel
theorem dX11_canServe_51 : decode cX11_canServe 51 = .ok (.goto 4, 3) := by decide +kernel
theorem dX11_canServe_55 : decode cX11_canServe 55 = .ok (.ior, 1) := by decide +kernel
theorem dX11_canServe_56 : decode cX11_canServe 56 = .ok (.istore 4, 2) := by decide +kernel
theorem dX11_canServe_58 : decode cX11_canServe 58 = .ok (.iinc 5 1, 3) := by decide +kernel
theorem dX11_canServe_61 : decode cX11_canServe 61 = .ok (.goto (-36), 3) := by decide +kernel
theorem dX11_canServe_16 : decode cX11_canServe 16 = .ok (.goto 66, 3) := by decide +kernel
theorem dX11_canServe_82 : decode cX11_canServe 82 = .ok (.iinc 3 1, 3) := by decide +kernel
theorem dX11_canServe_85 : decode cX11_canServe 85 = .ok (.goto (-83), 3) := by decide +kernel
theorem dX11_canServe_54 : decode cX11_canServe 54 = .ok (.iconst 0, 1) := by decide +kernel
theorem dX11_canServe_64 : decode cX11_canServe 64 = .ok (.iload 4, 2) := by decide +kernel
theorem dX11_canServe_66 : decode cX11_canServe 66 = .ok (.iload_n 2, 1) := by decide +kernel
theorem dX11_canServe_67 : decode cX11_canServe 67 = .ok (.iconst (-1), 1) := by decide +kernel
theorem dX11_canServe_68 : decode cX11_canServe 68 = .ok (.ixor, 1) := by decide +kernel
theorem dX11_canServe_69 : decode cX11_canServe 69 = .ok (.iand, 1) := by decide +kernel
theorem dX11_canServe_70 : decode cX11_canServe 70 = .ok (.invokestatic 450, 3) := by decide +kernel
theorem dX11_canServe_73 : decode cX11_canServe 73 = .ok (.iload_n 3, 1) := by decide +kernel
theorem dX11_canServe_74 : decode cX11_canServe 74 = .ok (.invokestatic 450, 3) := by decide +kernel
theorem dX11_canServe_77 : decode cX11_canServe 77 = .ok (.if_icmp .ge 5, 3) := by decide +kernel
theorem dX11_canServe_80 : decode cX11_canServe 80 = .ok (.iconst 0, 1) := by decide +kernel
theorem dX11_canServe_81 : decode cX11_canServe 81 = .ok (.ireturn, 1) := by decide +kernel
theorem dX11_canServe_88 : decode cX11_canServe 88 = .ok (.iconst 1, 1) := by decide +kernel
theorem dX11_canServe_89 : decode cX11_canServe 89 = .ok (.ireturn, 1) := by decide +kernel

theorem kX11_waits_1 {a : Array Value} {s : State} (hts : ∀ w ∈ wsX11_waits, w.before a s = true) : (.fieldLink RX11 387 "SnowMulesModel" "goHour" "I" : Cond).before a s = true := hts _ (List.mem_of_getElem? (i := 1) (by decide +kernel))
theorem kX11_waits_2 {a : Array Value} {s : State} (hts : ∀ w ∈ wsX11_waits, w.before a s = true) : (.fieldLink RX11 381 "SnowMulesModel" "goNode" "I" : Cond).before a s = true := hts _ (List.mem_of_getElem? (i := 2) (by decide +kernel))
theorem kX11_waits_3 {a : Array Value} {s : State} (hts : ∀ w ∈ wsX11_waits, w.before a s = true) : (.fieldLink RX11 384 "SnowMulesModel" "goDrops" "I" : Cond).before a s = true := hts _ (List.mem_of_getElem? (i := 3) (by decide +kernel))
theorem kX11_waits_4 {a : Array Value} {s : State} (hts : ∀ w ∈ wsX11_waits, w.before a s = true) : (.fieldLink RX11 390 "SnowMulesModel" "goFelt" "I" : Cond).before a s = true := hts _ (List.mem_of_getElem? (i := 4) (by decide +kernel))
theorem kX11_waits_5 {a : Array Value} {s : State} (hts : ∀ w ∈ wsX11_waits, w.before a s = true) : (.fieldLink RX11 393 "SnowMulesModel" "goSalt" "I" : Cond).before a s = true := hts _ (List.mem_of_getElem? (i := 5) (by decide +kernel))
theorem kX11_waits_6 {a : Array Value} {s : State} (hts : ∀ w ∈ wsX11_waits, w.before a s = true) : (.fieldLink RX11 396 "SnowMulesModel" "goMore" "I" : Cond).before a s = true := hts _ (List.mem_of_getElem? (i := 6) (by decide +kernel))
theorem kX11_travels_1 {a : Array Value} {s : State} (hts : ∀ w ∈ wsX11_travels, w.before a s = true) : (.fieldLink RX11 381 "SnowMulesModel" "goNode" "I" : Cond).before a s = true := hts _ (List.mem_of_getElem? (i := 1) (by decide +kernel))
theorem kX11_travels_2 {a : Array Value} {s : State} (hts : ∀ w ∈ wsX11_travels, w.before a s = true) : (.fieldLink RX11 387 "SnowMulesModel" "goHour" "I" : Cond).before a s = true := hts _ (List.mem_of_getElem? (i := 2) (by decide +kernel))
theorem kX11_travels_3 {a : Array Value} {s : State} (hts : ∀ w ∈ wsX11_travels, w.before a s = true) : (.fieldLink RX11 384 "SnowMulesModel" "goDrops" "I" : Cond).before a s = true := hts _ (List.mem_of_getElem? (i := 3) (by decide +kernel))
theorem kX11_travels_4 {a : Array Value} {s : State} (hts : ∀ w ∈ wsX11_travels, w.before a s = true) : (.fieldLink RX11 390 "SnowMulesModel" "goFelt" "I" : Cond).before a s = true := hts _ (List.mem_of_getElem? (i := 4) (by decide +kernel))
theorem kX11_travels_5 {a : Array Value} {s : State} (hts : ∀ w ∈ wsX11_travels, w.before a s = true) : (.fieldLink RX11 393 "SnowMulesModel" "goSalt" "I" : Cond).before a s = true := hts _ (List.mem_of_getElem? (i := 5) (by decide +kernel))
theorem kX11_travels_6 {a : Array Value} {s : State} (hts : ∀ w ∈ wsX11_travels, w.before a s = true) : (.fieldLink RX11 396 "SnowMulesModel" "goMore" "I" : Cond).before a s = true := hts _ (List.mem_of_getElem? (i := 6) (by decide +kernel))
theorem kX11_travels_7 {a : Array Value} {s : State} (hts : ∀ w ∈ wsX11_travels, w.before a s = true) : (.constantLong RX11 349 (100) : Cond).before a s = true := hts _ (List.mem_of_getElem? (i := 7) (by decide +kernel))
theorem kX11_tried_1 {a : Array Value} {s : State} (hts : ∀ w ∈ wsX11_tried, w.before a s = true) : (.fieldLink RX11 39 "SnowMulesModel" "said" "[I" : Cond).before a s = true := hts _ (List.mem_of_getElem? (i := 1) (by decide +kernel))
theorem kX11_tried_3 {a : Array Value} {s : State} (hts : ∀ w ∈ wsX11_tried, w.before a s = true) : (.fieldLink RX11 387 "SnowMulesModel" "goHour" "I" : Cond).before a s = true := hts _ (List.mem_of_getElem? (i := 3) (by decide +kernel))
theorem kX11_tried_2 {a : Array Value} {s : State} (hts : ∀ w ∈ wsX11_tried, w.before a s = true) : (.fieldLink RX11 384 "SnowMulesModel" "goDrops" "I" : Cond).before a s = true := hts _ (List.mem_of_getElem? (i := 2) (by decide +kernel))
theorem kX11_wasAt_1 {a : Array Value} {s : State} (hts : ∀ w ∈ wsX11_wasAt, w.before a s = true) : (.fieldLink RX11 45 "SnowMulesModel" "stepNode" "[I" : Cond).before a s = true := hts _ (List.mem_of_getElem? (i := 1) (by decide +kernel))
theorem iX11_waits_X11 : ∀ w ∈ wsX110, w ∈ wsX11_waits := by decide +kernel
theorem iX11_travels_X11 : ∀ w ∈ wsX110, w ∈ wsX11_travels := by decide +kernel
theorem iX11_tried_X11 : ∀ w ∈ wsX110, w ∈ wsX11_tried := by decide +kernel
theorem iX11_wasAt_X11 : ∀ w ∈ wsX110, w ∈ wsX11_wasAt := by decide +kernel
theorem dX11_waits_0 : decode cX11_waits 0 = .ok (.aload_n 0, 1) := by decide +kernel
theorem dX11_waits_1 : decode cX11_waits 1 = .ok (.aload_n 0, 1) := by decide +kernel
theorem dX11_waits_2 : decode cX11_waits 2 = .ok (.getfield 387, 3) := by decide +kernel
theorem dX11_waits_5 : decode cX11_waits 5 = .ok (.aload_n 0, 1) := by decide +kernel
theorem dX11_waits_6 : decode cX11_waits 6 = .ok (.getfield 381, 3) := by decide +kernel
theorem dX11_waits_9 : decode cX11_waits 9 = .ok (.aload_n 0, 1) := by decide +kernel
theorem dX11_waits_10 : decode cX11_waits 10 = .ok (.getfield 384, 3) := by decide +kernel
theorem dX11_waits_13 : decode cX11_waits 13 = .ok (.aload_n 0, 1) := by decide +kernel
theorem dX11_waits_14 : decode cX11_waits 14 = .ok (.getfield 390, 3) := by decide +kernel
theorem dX11_waits_17 : decode cX11_waits 17 = .ok (.aload_n 0, 1) := by decide +kernel
theorem dX11_waits_18 : decode cX11_waits 18 = .ok (.getfield 393, 3) := by decide +kernel
theorem dX11_waits_21 : decode cX11_waits 21 = .ok (.invokevirtual 330, 3) := by decide +kernel
theorem dX11_waits_24 : decode cX11_waits 24 = .ok (.aload_n 0, 1) := by decide +kernel
theorem dX11_waits_25 : decode cX11_waits 25 = .ok (.dup, 1) := by decide +kernel
theorem dX11_waits_26 : decode cX11_waits 26 = .ok (.getfield 384, 3) := by decide +kernel
theorem dX11_waits_29 : decode cX11_waits 29 = .ok (.aload_n 0, 1) := by decide +kernel
theorem dX11_waits_30 : decode cX11_waits 30 = .ok (.iload_n 1, 1) := by decide +kernel
theorem dX11_waits_31 : decode cX11_waits 31 = .ok (.aload_n 0, 1) := by decide +kernel
theorem dX11_waits_32 : decode cX11_waits 32 = .ok (.getfield 384, 3) := by decide +kernel
theorem dX11_waits_35 : decode cX11_waits 35 = .ok (.aload_n 0, 1) := by decide +kernel
theorem dX11_waits_36 : decode cX11_waits 36 = .ok (.getfield 396, 3) := by decide +kernel
theorem dX11_waits_39 : decode cX11_waits 39 = .ok (.invokevirtual 334, 3) := by decide +kernel
theorem dX11_waits_42 : decode cX11_waits 42 = .ok (.isub, 1) := by decide +kernel
theorem dX11_waits_43 : decode cX11_waits 43 = .ok (.putfield 384, 3) := by decide +kernel
theorem dX11_waits_46 : decode cX11_waits 46 = .ok (.aload_n 0, 1) := by decide +kernel
theorem dX11_waits_47 : decode cX11_waits 47 = .ok (.dup, 1) := by decide +kernel
theorem dX11_waits_48 : decode cX11_waits 48 = .ok (.getfield 387, 3) := by decide +kernel
theorem dX11_waits_51 : decode cX11_waits 51 = .ok (.iconst 1, 1) := by decide +kernel
theorem dX11_waits_52 : decode cX11_waits 52 = .ok (.iadd, 1) := by decide +kernel
theorem dX11_waits_53 : decode cX11_waits 53 = .ok (.putfield 387, 3) := by decide +kernel
theorem dX11_waits_56 : decode cX11_waits 56 = .ok (.return_, 1) := by decide +kernel
theorem dX11_travels_0 : decode cX11_travels 0 = .ok (.aload_n 0, 1) := by decide +kernel
theorem dX11_travels_1 : decode cX11_travels 1 = .ok (.iload_n 2, 1) := by decide +kernel
theorem dX11_travels_2 : decode cX11_travels 2 = .ok (.aload_n 0, 1) := by decide +kernel
theorem dX11_travels_3 : decode cX11_travels 3 = .ok (.getfield 381, 3) := by decide +kernel
theorem dX11_travels_6 : decode cX11_travels 6 = .ok (.invokevirtual 309, 3) := by decide +kernel
theorem dX11_travels_9 : decode cX11_travels 9 = .ok (.istore_n 3, 1) := by decide +kernel
theorem dX11_travels_10 : decode cX11_travels 10 = .ok (.iconst 0, 1) := by decide +kernel
theorem dX11_travels_11 : decode cX11_travels 11 = .ok (.istore 4, 2) := by decide +kernel
theorem dX11_travels_13 : decode cX11_travels 13 = .ok (.iload 4, 2) := by decide +kernel
theorem dX11_travels_15 : decode cX11_travels 15 = .ok (.aload_n 0, 1) := by decide +kernel
theorem dX11_travels_16 : decode cX11_travels 16 = .ok (.iload_n 2, 1) := by decide +kernel
theorem dX11_travels_17 : decode cX11_travels 17 = .ok (.iconst 2, 1) := by decide +kernel
theorem dX11_travels_18 : decode cX11_travels 18 = .ok (.invokevirtual 303, 3) := by decide +kernel
theorem dX11_travels_21 : decode cX11_travels 21 = .ok (.if_icmp .ge 65, 3) := by decide +kernel
theorem dX11_travels_24 : decode cX11_travels 24 = .ok (.aload_n 0, 1) := by decide +kernel
theorem dX11_travels_25 : decode cX11_travels 25 = .ok (.aload_n 0, 1) := by decide +kernel
theorem dX11_travels_26 : decode cX11_travels 26 = .ok (.getfield 387, 3) := by decide +kernel
theorem dX11_travels_29 : decode cX11_travels 29 = .ok (.iload_n 2, 1) := by decide +kernel
theorem dX11_travels_30 : decode cX11_travels 30 = .ok (.iload_n 3, 1) := by decide +kernel
theorem dX11_travels_31 : decode cX11_travels 31 = .ok (.iload 4, 2) := by decide +kernel
theorem dX11_travels_33 : decode cX11_travels 33 = .ok (.aload_n 0, 1) := by decide +kernel
theorem dX11_travels_34 : decode cX11_travels 34 = .ok (.getfield 384, 3) := by decide +kernel
theorem dX11_travels_37 : decode cX11_travels 37 = .ok (.aload_n 0, 1) := by decide +kernel
theorem dX11_travels_38 : decode cX11_travels 38 = .ok (.getfield 390, 3) := by decide +kernel
theorem dX11_travels_41 : decode cX11_travels 41 = .ok (.aload_n 0, 1) := by decide +kernel
theorem dX11_travels_42 : decode cX11_travels 42 = .ok (.getfield 393, 3) := by decide +kernel
theorem dX11_travels_45 : decode cX11_travels 45 = .ok (.invokevirtual 326, 3) := by decide +kernel
theorem dX11_travels_48 : decode cX11_travels 48 = .ok (.aload_n 0, 1) := by decide +kernel
theorem dX11_travels_49 : decode cX11_travels 49 = .ok (.dup, 1) := by decide +kernel
theorem dX11_travels_50 : decode cX11_travels 50 = .ok (.getfield 384, 3) := by decide +kernel
theorem dX11_travels_53 : decode cX11_travels 53 = .ok (.aload_n 0, 1) := by decide +kernel
theorem dX11_travels_54 : decode cX11_travels 54 = .ok (.iload_n 1, 1) := by decide +kernel
theorem dX11_travels_55 : decode cX11_travels 55 = .ok (.aload_n 0, 1) := by decide +kernel
theorem dX11_travels_56 : decode cX11_travels 56 = .ok (.getfield 384, 3) := by decide +kernel
theorem dX11_travels_59 : decode cX11_travels 59 = .ok (.aload_n 0, 1) := by decide +kernel
theorem dX11_travels_60 : decode cX11_travels 60 = .ok (.getfield 396, 3) := by decide +kernel
theorem dX11_travels_63 : decode cX11_travels 63 = .ok (.invokevirtual 334, 3) := by decide +kernel
theorem dX11_travels_66 : decode cX11_travels 66 = .ok (.isub, 1) := by decide +kernel
theorem dX11_travels_67 : decode cX11_travels 67 = .ok (.putfield 384, 3) := by decide +kernel
theorem dX11_travels_70 : decode cX11_travels 70 = .ok (.aload_n 0, 1) := by decide +kernel
theorem dX11_travels_71 : decode cX11_travels 71 = .ok (.dup, 1) := by decide +kernel
theorem dX11_travels_72 : decode cX11_travels 72 = .ok (.getfield 387, 3) := by decide +kernel
theorem dX11_travels_75 : decode cX11_travels 75 = .ok (.iconst 1, 1) := by decide +kernel
theorem dX11_travels_76 : decode cX11_travels 76 = .ok (.iadd, 1) := by decide +kernel
theorem dX11_travels_77 : decode cX11_travels 77 = .ok (.putfield 387, 3) := by decide +kernel
theorem dX11_travels_80 : decode cX11_travels 80 = .ok (.iinc 4 1, 3) := by decide +kernel
theorem dX11_travels_83 : decode cX11_travels 83 = .ok (.goto (-70), 3) := by decide +kernel
theorem dX11_travels_86 : decode cX11_travels 86 = .ok (.aload_n 0, 1) := by decide +kernel
theorem dX11_travels_87 : decode cX11_travels 87 = .ok (.iload_n 3, 1) := by decide +kernel
theorem dX11_travels_88 : decode cX11_travels 88 = .ok (.putfield 381, 3) := by decide +kernel
theorem dX11_travels_91 : decode cX11_travels 91 = .ok (.aload_n 0, 1) := by decide +kernel
theorem dX11_travels_92 : decode cX11_travels 92 = .ok (.aload_n 0, 1) := by decide +kernel
theorem dX11_travels_93 : decode cX11_travels 93 = .ok (.getfield 387, 3) := by decide +kernel
theorem dX11_travels_96 : decode cX11_travels 96 = .ok (.iload_n 3, 1) := by decide +kernel
theorem dX11_travels_97 : decode cX11_travels 97 = .ok (.aload_n 0, 1) := by decide +kernel
theorem dX11_travels_98 : decode cX11_travels 98 = .ok (.getfield 384, 3) := by decide +kernel
theorem dX11_travels_101 : decode cX11_travels 101 = .ok (.aload_n 0, 1) := by decide +kernel
theorem dX11_travels_102 : decode cX11_travels 102 = .ok (.getfield 390, 3) := by decide +kernel
theorem dX11_travels_105 : decode cX11_travels 105 = .ok (.aload_n 0, 1) := by decide +kernel
theorem dX11_travels_106 : decode cX11_travels 106 = .ok (.getfield 393, 3) := by decide +kernel
theorem dX11_travels_109 : decode cX11_travels 109 = .ok (.invokevirtual 330, 3) := by decide +kernel
theorem dX11_travels_112 : decode cX11_travels 112 = .ok (.aload_n 0, 1) := by decide +kernel
theorem dX11_travels_113 : decode cX11_travels 113 = .ok (.dup, 1) := by decide +kernel
theorem dX11_travels_114 : decode cX11_travels 114 = .ok (.getfield 384, 3) := by decide +kernel
theorem dX11_travels_117 : decode cX11_travels 117 = .ok (.aload_n 0, 1) := by decide +kernel
theorem dX11_travels_118 : decode cX11_travels 118 = .ok (.getfield 384, 3) := by decide +kernel
theorem dX11_travels_121 : decode cX11_travels 121 = .ok (.i2l, 1) := by decide +kernel
theorem dX11_travels_122 : decode cX11_travels 122 = .ok (.aload_n 0, 1) := by decide +kernel
theorem dX11_travels_123 : decode cX11_travels 123 = .ok (.iload_n 1, 1) := by decide +kernel
theorem dX11_travels_124 : decode cX11_travels 124 = .ok (.iconst 2, 1) := by decide +kernel
theorem dX11_travels_125 : decode cX11_travels 125 = .ok (.invokevirtual 318, 3) := by decide +kernel
theorem dX11_travels_128 : decode cX11_travels 128 = .ok (.lconst 0, 1) := by decide +kernel
theorem dX11_travels_129 : decode cX11_travels 129 = .ok (.ldc2_w 349, 3) := by decide +kernel
theorem dX11_travels_132 : decode cX11_travels 132 = .ok (.invokestatic 322, 3) := by decide +kernel
theorem dX11_travels_135 : decode cX11_travels 135 = .ok (.lmul, 1) := by decide +kernel
theorem dX11_travels_136 : decode cX11_travels 136 = .ok (.ldc2_w 349, 3) := by decide +kernel
theorem dX11_travels_139 : decode cX11_travels 139 = .ok (.ldiv, 1) := by decide +kernel
theorem dX11_travels_140 : decode cX11_travels 140 = .ok (.l2i, 1) := by decide +kernel
theorem dX11_travels_141 : decode cX11_travels 141 = .ok (.isub, 1) := by decide +kernel
theorem dX11_travels_142 : decode cX11_travels 142 = .ok (.putfield 384, 3) := by decide +kernel
theorem dX11_travels_145 : decode cX11_travels 145 = .ok (.return_, 1) := by decide +kernel
theorem dX11_tried_0 : decode cX11_tried 0 = .ok (.aload_n 0, 1) := by decide +kernel
theorem dX11_tried_1 : decode cX11_tried 1 = .ok (.iload_n 1, 1) := by decide +kernel
theorem dX11_tried_2 : decode cX11_tried 2 = .ok (.iload_n 2, 1) := by decide +kernel
theorem dX11_tried_3 : decode cX11_tried 3 = .ok (.iload_n 3, 1) := by decide +kernel
theorem dX11_tried_4 : decode cX11_tried 4 = .ok (.iload 4, 2) := by decide +kernel
theorem dX11_tried_6 : decode cX11_tried 6 = .ok (.iload 5, 2) := by decide +kernel
theorem dX11_tried_8 : decode cX11_tried 8 = .ok (.invokevirtual 403, 3) := by decide +kernel
theorem dX11_tried_11 : decode cX11_tried 11 = .ok (.ifCond .eq 14, 3) := by decide +kernel
theorem dX11_tried_25 : decode cX11_tried 25 = .ok (.iconst (-1), 1) := by decide +kernel
theorem dX11_tried_26 : decode cX11_tried 26 = .ok (.ireturn, 1) := by decide +kernel
theorem dX11_tried_14 : decode cX11_tried 14 = .ok (.iload 6, 2) := by decide +kernel
theorem dX11_tried_16 : decode cX11_tried 16 = .ok (.i2l, 1) := by decide +kernel
theorem dX11_tried_17 : decode cX11_tried 17 = .ok (.lconst 0, 1) := by decide +kernel
theorem dX11_tried_18 : decode cX11_tried 18 = .ok (.lconst 1, 1) := by decide +kernel
theorem dX11_tried_19 : decode cX11_tried 19 = .ok (.invokestatic 118, 3) := by decide +kernel
theorem dX11_tried_22 : decode cX11_tried 22 = .ok (.ifCond .ne 5, 3) := by decide +kernel
theorem dX11_tried_27 : decode cX11_tried 27 = .ok (.aload_n 0, 1) := by decide +kernel
theorem dX11_tried_28 : decode cX11_tried 28 = .ok (.aload_n 0, 1) := by decide +kernel
theorem dX11_tried_29 : decode cX11_tried 29 = .ok (.getfield 39, 3) := by decide +kernel
theorem dX11_tried_32 : decode cX11_tried 32 = .ok (.bipush 8, 2) := by decide +kernel
theorem dX11_tried_34 : decode cX11_tried 34 = .ok (.iaload, 1) := by decide +kernel
theorem dX11_tried_35 : decode cX11_tried 35 = .ok (.iload_n 3, 1) := by decide +kernel
theorem dX11_tried_36 : decode cX11_tried 36 = .ok (.iload_n 2, 1) := by decide +kernel
theorem dX11_tried_37 : decode cX11_tried 37 = .ok (.iload 4, 2) := by decide +kernel
theorem dX11_tried_39 : decode cX11_tried 39 = .ok (.iload 5, 2) := by decide +kernel
theorem dX11_tried_41 : decode cX11_tried 41 = .ok (.invokevirtual 407, 3) := by decide +kernel
theorem dX11_tried_44 : decode cX11_tried 44 = .ok (.iconst 0, 1) := by decide +kernel
theorem dX11_tried_45 : decode cX11_tried 45 = .ok (.istore 7, 2) := by decide +kernel
theorem dX11_tried_47 : decode cX11_tried 47 = .ok (.iload 7, 2) := by decide +kernel
theorem dX11_tried_49 : decode cX11_tried 49 = .ok (.aload_n 0, 1) := by decide +kernel
theorem dX11_tried_50 : decode cX11_tried 50 = .ok (.getfield 39, 3) := by decide +kernel
theorem dX11_tried_53 : decode cX11_tried 53 = .ok (.bipush 9, 2) := by decide +kernel
theorem dX11_tried_55 : decode cX11_tried 55 = .ok (.iaload, 1) := by decide +kernel
theorem dX11_tried_56 : decode cX11_tried 56 = .ok (.if_icmp .ge 24, 3) := by decide +kernel
theorem dX11_tried_59 : decode cX11_tried 59 = .ok (.aload_n 0, 1) := by decide +kernel
theorem dX11_tried_60 : decode cX11_tried 60 = .ok (.iload_n 1, 1) := by decide +kernel
theorem dX11_tried_61 : decode cX11_tried 61 = .ok (.aload_n 0, 1) := by decide +kernel
theorem dX11_tried_62 : decode cX11_tried 62 = .ok (.getfield 39, 3) := by decide +kernel
theorem dX11_tried_65 : decode cX11_tried 65 = .ok (.bipush 10, 2) := by decide +kernel
theorem dX11_tried_67 : decode cX11_tried 67 = .ok (.iload 7, 2) := by decide +kernel
theorem dX11_tried_69 : decode cX11_tried 69 = .ok (.iadd, 1) := by decide +kernel
theorem dX11_tried_70 : decode cX11_tried 70 = .ok (.iaload, 1) := by decide +kernel
theorem dX11_tried_71 : decode cX11_tried 71 = .ok (.invokevirtual 410, 3) := by decide +kernel
theorem dX11_tried_74 : decode cX11_tried 74 = .ok (.iinc 7 1, 3) := by decide +kernel
theorem dX11_tried_77 : decode cX11_tried 77 = .ok (.goto (-30), 3) := by decide +kernel
theorem dX11_tried_80 : decode cX11_tried 80 = .ok (.iload 6, 2) := by decide +kernel
theorem dX11_tried_82 : decode cX11_tried 82 = .ok (.ifCond .ne 10, 3) := by decide +kernel
theorem dX11_tried_92 : decode cX11_tried 92 = .ok (.aload_n 0, 1) := by decide +kernel
theorem dX11_tried_93 : decode cX11_tried 93 = .ok (.getfield 387, 3) := by decide +kernel
theorem dX11_tried_96 : decode cX11_tried 96 = .ok (.iload_n 2, 1) := by decide +kernel
theorem dX11_tried_97 : decode cX11_tried 97 = .ok (.isub, 1) := by decide +kernel
theorem dX11_tried_85 : decode cX11_tried 85 = .ok (.aload_n 0, 1) := by decide +kernel
theorem dX11_tried_86 : decode cX11_tried 86 = .ok (.getfield 384, 3) := by decide +kernel
theorem dX11_tried_89 : decode cX11_tried 89 = .ok (.goto 9, 3) := by decide +kernel
theorem dX11_tried_98 : decode cX11_tried 98 = .ok (.ireturn, 1) := by decide +kernel
theorem dX11_wasAt_0 : decode cX11_wasAt 0 = .ok (.iconst 0, 1) := by decide +kernel
theorem dX11_wasAt_1 : decode cX11_wasAt 1 = .ok (.istore_n 3, 1) := by decide +kernel
theorem dX11_wasAt_2 : decode cX11_wasAt 2 = .ok (.iload_n 3, 1) := by decide +kernel
theorem dX11_wasAt_3 : decode cX11_wasAt 3 = .ok (.iload_n 2, 1) := by decide +kernel
theorem dX11_wasAt_4 : decode cX11_wasAt 4 = .ok (.if_icmp .gt 21, 3) := by decide +kernel
theorem dX11_wasAt_7 : decode cX11_wasAt 7 = .ok (.aload_n 0, 1) := by decide +kernel
theorem dX11_wasAt_8 : decode cX11_wasAt 8 = .ok (.getfield 45, 3) := by decide +kernel
theorem dX11_wasAt_11 : decode cX11_wasAt 11 = .ok (.iload_n 3, 1) := by decide +kernel
theorem dX11_wasAt_12 : decode cX11_wasAt 12 = .ok (.iaload, 1) := by decide +kernel
theorem dX11_wasAt_13 : decode cX11_wasAt 13 = .ok (.iload_n 1, 1) := by decide +kernel
theorem dX11_wasAt_14 : decode cX11_wasAt 14 = .ok (.if_icmp .ne 5, 3) := by decide +kernel
theorem dX11_wasAt_19 : decode cX11_wasAt 19 = .ok (.iinc 3 1, 3) := by decide +kernel
theorem dX11_wasAt_22 : decode cX11_wasAt 22 = .ok (.goto (-20), 3) := by decide +kernel
theorem dX11_wasAt_17 : decode cX11_wasAt 17 = .ok (.iconst 1, 1) := by decide +kernel
theorem dX11_wasAt_18 : decode cX11_wasAt 18 = .ok (.ireturn, 1) := by decide +kernel
theorem dX11_wasAt_25 : decode cX11_wasAt 25 = .ok (.iconst 0, 1) := by decide +kernel
theorem dX11_wasAt_26 : decode cX11_wasAt 26 = .ok (.ireturn, 1) := by decide +kernel

theorem kX11_tested_1 {a : Array Value} {s : State} (hts : ∀ w ∈ wsX11_tested, w.before a s = true) : (.fieldLink RX11 153 "SnowMulesModel" "opened" "I" : Cond).before a s = true := hts _ (List.mem_of_getElem? (i := 1) (by decide +kernel))
theorem kX11_tested_2 {a : Array Value} {s : State} (hts : ∀ w ∈ wsX11_tested, w.before a s = true) : (.fieldLink RX11 150 "SnowMulesModel" "deep" "I" : Cond).before a s = true := hts _ (List.mem_of_getElem? (i := 2) (by decide +kernel))
theorem kX11_tested_3 {a : Array Value} {s : State} (hts : ∀ w ∈ wsX11_tested, w.before a s = true) : (.constantLong RX11 204 (6385252) : Cond).before a s = true := hts _ (List.mem_of_getElem? (i := 3) (by decide +kernel))
theorem kX11_tested_5 {a : Array Value} {s : State} (hts : ∀ w ∈ wsX11_tested, w.before a s = true) : (.fieldLink RX11 29 "SnowMulesModel" "open" "[I" : Cond).before a s = true := hts _ (List.mem_of_getElem? (i := 5) (by decide +kernel))
theorem kX11_tested_4 {a : Array Value} {s : State} (hts : ∀ w ∈ wsX11_tested, w.before a s = true) : (.constantLong RX11 206 (28530) : Cond).before a s = true := hts _ (List.mem_of_getElem? (i := 4) (by decide +kernel))
theorem kX11_tested_6 {a : Array Value} {s : State} (hts : ∀ w ∈ wsX11_tested, w.before a s = true) : (.fieldLink RX11 90 "SnowMulesModel" "next" "I" : Cond).before a s = true := hts _ (List.mem_of_getElem? (i := 6) (by decide +kernel))
theorem iX11_tested_X11 : ∀ w ∈ wsX110, w ∈ wsX11_tested := by decide +kernel
theorem dX11_tested_0 : decode cX11_tested 0 = .ok (.aload_n 0, 1) := by decide +kernel
theorem dX11_tested_1 : decode cX11_tested 1 = .ok (.iconst 0, 1) := by decide +kernel
theorem dX11_tested_2 : decode cX11_tested 2 = .ok (.putfield 153, 3) := by decide +kernel
theorem dX11_tested_5 : decode cX11_tested 5 = .ok (.aload_n 0, 1) := by decide +kernel
theorem dX11_tested_6 : decode cX11_tested 6 = .ok (.iconst 0, 1) := by decide +kernel
theorem dX11_tested_7 : decode cX11_tested 7 = .ok (.putfield 150, 3) := by decide +kernel
theorem dX11_tested_10 : decode cX11_tested 10 = .ok (.iconst 1, 1) := by decide +kernel
theorem dX11_tested_11 : decode cX11_tested 11 = .ok (.istore_n 1, 1) := by decide +kernel
theorem dX11_tested_12 : decode cX11_tested 12 = .ok (.iload_n 1, 1) := by decide +kernel
theorem dX11_tested_13 : decode cX11_tested 13 = .ok (.ifCond .eq 99, 3) := by decide +kernel
theorem dX11_tested_16 : decode cX11_tested 16 = .ok (.aload_n 0, 1) := by decide +kernel
theorem dX11_tested_17 : decode cX11_tested 17 = .ok (.invokevirtual 198, 3) := by decide +kernel
theorem dX11_tested_20 : decode cX11_tested 20 = .ok (.ifCond .ne 5, 3) := by decide +kernel
theorem dX11_tested_25 : decode cX11_tested 25 = .ok (.aload_n 0, 1) := by decide +kernel
theorem dX11_tested_26 : decode cX11_tested 26 = .ok (.invokevirtual 201, 3) := by decide +kernel
theorem dX11_tested_29 : decode cX11_tested 29 = .ok (.aload_n 0, 1) := by decide +kernel
theorem dX11_tested_30 : decode cX11_tested 30 = .ok (.ldc2_w 204, 3) := by decide +kernel
theorem dX11_tested_33 : decode cX11_tested 33 = .ok (.invokevirtual 101, 3) := by decide +kernel
theorem dX11_tested_36 : decode cX11_tested 36 = .ok (.ifCond .ne 13, 3) := by decide +kernel
theorem dX11_tested_49 : decode cX11_tested 49 = .ok (.iconst 1, 1) := by decide +kernel
theorem dX11_tested_50 : decode cX11_tested 50 = .ok (.goto 4, 3) := by decide +kernel
theorem dX11_tested_54 : decode cX11_tested 54 = .ok (.istore_n 1, 1) := by decide +kernel
theorem dX11_tested_55 : decode cX11_tested 55 = .ok (.iload_n 1, 1) := by decide +kernel
theorem dX11_tested_56 : decode cX11_tested 56 = .ok (.ifCond .eq (-44), 3) := by decide +kernel
theorem dX11_tested_59 : decode cX11_tested 59 = .ok (.aload_n 0, 1) := by decide +kernel
theorem dX11_tested_60 : decode cX11_tested 60 = .ok (.ldc2_w 204, 3) := by decide +kernel
theorem dX11_tested_63 : decode cX11_tested 63 = .ok (.invokevirtual 101, 3) := by decide +kernel
theorem dX11_tested_66 : decode cX11_tested 66 = .ok (.ifCond .eq 8, 3) := by decide +kernel
theorem dX11_tested_74 : decode cX11_tested 74 = .ok (.bipush 13, 2) := by decide +kernel
theorem dX11_tested_76 : decode cX11_tested 76 = .ok (.istore_n 2, 1) := by decide +kernel
theorem dX11_tested_77 : decode cX11_tested 77 = .ok (.aload_n 0, 1) := by decide +kernel
theorem dX11_tested_78 : decode cX11_tested 78 = .ok (.invokevirtual 105, 3) := by decide +kernel
theorem dX11_tested_81 : decode cX11_tested 81 = .ok (.aload_n 0, 1) := by decide +kernel
theorem dX11_tested_82 : decode cX11_tested 82 = .ok (.iload_n 2, 1) := by decide +kernel
theorem dX11_tested_83 : decode cX11_tested 83 = .ok (.invokestatic 156, 3) := by decide +kernel
theorem dX11_tested_86 : decode cX11_tested 86 = .ok (.invokevirtual 192, 3) := by decide +kernel
theorem dX11_tested_89 : decode cX11_tested 89 = .ok (.aload_n 0, 1) := by decide +kernel
theorem dX11_tested_90 : decode cX11_tested 90 = .ok (.getfield 29, 3) := by decide +kernel
theorem dX11_tested_93 : decode cX11_tested 93 = .ok (.aload_n 0, 1) := by decide +kernel
theorem dX11_tested_94 : decode cX11_tested 94 = .ok (.getfield 153, 3) := by decide +kernel
theorem dX11_tested_97 : decode cX11_tested 97 = .ok (.iload_n 2, 1) := by decide +kernel
theorem dX11_tested_98 : decode cX11_tested 98 = .ok (.iastore, 1) := by decide +kernel
theorem dX11_tested_99 : decode cX11_tested 99 = .ok (.aload_n 0, 1) := by decide +kernel
theorem dX11_tested_100 : decode cX11_tested 100 = .ok (.dup, 1) := by decide +kernel
theorem dX11_tested_101 : decode cX11_tested 101 = .ok (.getfield 153, 3) := by decide +kernel
theorem dX11_tested_104 : decode cX11_tested 104 = .ok (.iconst 1, 1) := by decide +kernel
theorem dX11_tested_105 : decode cX11_tested 105 = .ok (.iadd, 1) := by decide +kernel
theorem dX11_tested_106 : decode cX11_tested 106 = .ok (.putfield 153, 3) := by decide +kernel
theorem dX11_tested_109 : decode cX11_tested 109 = .ok (.goto (-97), 3) := by decide +kernel
theorem dX11_tested_69 : decode cX11_tested 69 = .ok (.bipush 12, 2) := by decide +kernel
theorem dX11_tested_71 : decode cX11_tested 71 = .ok (.goto 5, 3) := by decide +kernel
theorem dX11_tested_39 : decode cX11_tested 39 = .ok (.aload_n 0, 1) := by decide +kernel
theorem dX11_tested_40 : decode cX11_tested 40 = .ok (.ldc2_w 206, 3) := by decide +kernel
theorem dX11_tested_43 : decode cX11_tested 43 = .ok (.invokevirtual 101, 3) := by decide +kernel
theorem dX11_tested_46 : decode cX11_tested 46 = .ok (.ifCond .eq 7, 3) := by decide +kernel
theorem dX11_tested_53 : decode cX11_tested 53 = .ok (.iconst 0, 1) := by decide +kernel
theorem dX11_tested_23 : decode cX11_tested 23 = .ok (.iconst 0, 1) := by decide +kernel
theorem dX11_tested_24 : decode cX11_tested 24 = .ok (.ireturn, 1) := by decide +kernel
theorem dX11_tested_112 : decode cX11_tested 112 = .ok (.aload_n 0, 1) := by decide +kernel
theorem dX11_tested_113 : decode cX11_tested 113 = .ok (.invokevirtual 195, 3) := by decide +kernel
theorem dX11_tested_116 : decode cX11_tested 116 = .ok (.ifCond .eq 18, 3) := by decide +kernel
theorem dX11_tested_134 : decode cX11_tested 134 = .ok (.aload_n 0, 1) := by decide +kernel
theorem dX11_tested_135 : decode cX11_tested 135 = .ok (.iconst 1, 1) := by decide +kernel
theorem dX11_tested_136 : decode cX11_tested 136 = .ok (.invokevirtual 192, 3) := by decide +kernel
theorem dX11_tested_139 : decode cX11_tested 139 = .ok (.iconst 1, 1) := by decide +kernel
theorem dX11_tested_140 : decode cX11_tested 140 = .ok (.ireturn, 1) := by decide +kernel
theorem dX11_tested_119 : decode cX11_tested 119 = .ok (.aload_n 0, 1) := by decide +kernel
theorem dX11_tested_120 : decode cX11_tested 120 = .ok (.invokevirtual 93, 3) := by decide +kernel
theorem dX11_tested_123 : decode cX11_tested 123 = .ok (.pop, 1) := by decide +kernel
theorem dX11_tested_124 : decode cX11_tested 124 = .ok (.aload_n 0, 1) := by decide +kernel
theorem dX11_tested_125 : decode cX11_tested 125 = .ok (.iconst 0, 1) := by decide +kernel
theorem dX11_tested_126 : decode cX11_tested 126 = .ok (.aload_n 0, 1) := by decide +kernel
theorem dX11_tested_127 : decode cX11_tested 127 = .ok (.getfield 90, 3) := by decide +kernel
theorem dX11_tested_130 : decode cX11_tested 130 = .ok (.invokevirtual 111, 3) := by decide +kernel
theorem dX11_tested_133 : decode cX11_tested 133 = .ok (.ireturn, 1) := by decide +kernel

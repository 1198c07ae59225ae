theorem kX11_numberHere_1 {a : Array Value} {s : State} (hts : ∀ w ∈ wsX11_numberHere, w.before a s = true) : (.fieldLink RX11 90 "SnowMulesModel" "next" "I" : Cond).before a s = true := hts _ (List.mem_of_getElem? (i := 1) (by decide +kernel))
theorem kX11_numberHere_2 {a : Array Value} {s : State} (hts : ∀ w ∈ wsX11_numberHere, w.before a s = true) : (.fieldLink RX11 7 "SnowMulesModel" "tape" "[B" : Cond).before a s = true := hts _ (List.mem_of_getElem? (i := 2) (by decide +kernel))
theorem kX11_numberHere_3 {a : Array Value} {s : State} (hts : ∀ w ∈ wsX11_numberHere, w.before a s = true) : (.fieldLink RX11 115 "SnowMulesModel" "number" "I" : Cond).before a s = true := hts _ (List.mem_of_getElem? (i := 3) (by decide +kernel))
theorem iX11_numberHere_X11 : ∀ w ∈ wsX110, w ∈ wsX11_numberHere := by decide +kernel
theorem dX11_numberHere_0 : decode cX11_numberHere 0 = .ok (.aload_n 0, 1) := by decide +kernel
theorem dX11_numberHere_1 : decode cX11_numberHere 1 = .ok (.invokevirtual 93, 3) := by decide +kernel
theorem dX11_numberHere_4 : decode cX11_numberHere 4 = .ok (.pop, 1) := by decide +kernel
theorem dX11_numberHere_5 : decode cX11_numberHere 5 = .ok (.aload_n 0, 1) := by decide +kernel
theorem dX11_numberHere_6 : decode cX11_numberHere 6 = .ok (.aload_n 0, 1) := by decide +kernel
theorem dX11_numberHere_7 : decode cX11_numberHere 7 = .ok (.getfield 90, 3) := by decide +kernel
theorem dX11_numberHere_10 : decode cX11_numberHere 10 = .ok (.invokevirtual 108, 3) := by decide +kernel
theorem dX11_numberHere_13 : decode cX11_numberHere 13 = .ok (.ifCond .ne 13, 3) := by decide +kernel
theorem dX11_numberHere_26 : decode cX11_numberHere 26 = .ok (.aload_n 0, 1) := by decide +kernel
theorem dX11_numberHere_27 : decode cX11_numberHere 27 = .ok (.getfield 90, 3) := by decide +kernel
theorem dX11_numberHere_30 : decode cX11_numberHere 30 = .ok (.istore_n 3, 1) := by decide +kernel
theorem dX11_numberHere_31 : decode cX11_numberHere 31 = .ok (.iconst 0, 1) := by decide +kernel
theorem dX11_numberHere_32 : decode cX11_numberHere 32 = .ok (.istore 4, 2) := by decide +kernel
theorem dX11_numberHere_34 : decode cX11_numberHere 34 = .ok (.aload_n 0, 1) := by decide +kernel
theorem dX11_numberHere_35 : decode cX11_numberHere 35 = .ok (.aload_n 0, 1) := by decide +kernel
theorem dX11_numberHere_36 : decode cX11_numberHere 36 = .ok (.getfield 90, 3) := by decide +kernel
theorem dX11_numberHere_39 : decode cX11_numberHere 39 = .ok (.invokevirtual 108, 3) := by decide +kernel
theorem dX11_numberHere_42 : decode cX11_numberHere 42 = .ok (.ifCond .eq 46, 3) := by decide +kernel
theorem dX11_numberHere_45 : decode cX11_numberHere 45 = .ok (.aload_n 0, 1) := by decide +kernel
theorem dX11_numberHere_46 : decode cX11_numberHere 46 = .ok (.getfield 90, 3) := by decide +kernel
theorem dX11_numberHere_49 : decode cX11_numberHere 49 = .ok (.iload_n 3, 1) := by decide +kernel
theorem dX11_numberHere_50 : decode cX11_numberHere 50 = .ok (.isub, 1) := by decide +kernel
theorem dX11_numberHere_51 : decode cX11_numberHere 51 = .ok (.iconst 5, 1) := by decide +kernel
theorem dX11_numberHere_52 : decode cX11_numberHere 52 = .ok (.if_icmp .ge 23, 3) := by decide +kernel
theorem dX11_numberHere_75 : decode cX11_numberHere 75 = .ok (.aload_n 0, 1) := by decide +kernel
theorem dX11_numberHere_76 : decode cX11_numberHere 76 = .ok (.dup, 1) := by decide +kernel
theorem dX11_numberHere_77 : decode cX11_numberHere 77 = .ok (.getfield 90, 3) := by decide +kernel
theorem dX11_numberHere_80 : decode cX11_numberHere 80 = .ok (.iconst 1, 1) := by decide +kernel
theorem dX11_numberHere_81 : decode cX11_numberHere 81 = .ok (.iadd, 1) := by decide +kernel
theorem dX11_numberHere_82 : decode cX11_numberHere 82 = .ok (.putfield 90, 3) := by decide +kernel
theorem dX11_numberHere_85 : decode cX11_numberHere 85 = .ok (.goto (-51), 3) := by decide +kernel
theorem dX11_numberHere_55 : decode cX11_numberHere 55 = .ok (.bipush 10, 2) := by decide +kernel
theorem dX11_numberHere_57 : decode cX11_numberHere 57 = .ok (.iload 4, 2) := by decide +kernel
theorem dX11_numberHere_59 : decode cX11_numberHere 59 = .ok (.imul, 1) := by decide +kernel
theorem dX11_numberHere_60 : decode cX11_numberHere 60 = .ok (.aload_n 0, 1) := by decide +kernel
theorem dX11_numberHere_61 : decode cX11_numberHere 61 = .ok (.getfield 7, 3) := by decide +kernel
theorem dX11_numberHere_64 : decode cX11_numberHere 64 = .ok (.aload_n 0, 1) := by decide +kernel
theorem dX11_numberHere_65 : decode cX11_numberHere 65 = .ok (.getfield 90, 3) := by decide +kernel
theorem dX11_numberHere_68 : decode cX11_numberHere 68 = .ok (.baload, 1) := by decide +kernel
theorem dX11_numberHere_69 : decode cX11_numberHere 69 = .ok (.iadd, 1) := by decide +kernel
theorem dX11_numberHere_70 : decode cX11_numberHere 70 = .ok (.bipush 48, 2) := by decide +kernel
theorem dX11_numberHere_72 : decode cX11_numberHere 72 = .ok (.isub, 1) := by decide +kernel
theorem dX11_numberHere_73 : decode cX11_numberHere 73 = .ok (.istore 4, 2) := by decide +kernel
theorem dX11_numberHere_16 : decode cX11_numberHere 16 = .ok (.aload_n 0, 1) := by decide +kernel
theorem dX11_numberHere_17 : decode cX11_numberHere 17 = .ok (.iconst 0, 1) := by decide +kernel
theorem dX11_numberHere_18 : decode cX11_numberHere 18 = .ok (.aload_n 0, 1) := by decide +kernel
theorem dX11_numberHere_19 : decode cX11_numberHere 19 = .ok (.getfield 90, 3) := by decide +kernel
theorem dX11_numberHere_22 : decode cX11_numberHere 22 = .ok (.invokevirtual 111, 3) := by decide +kernel
theorem dX11_numberHere_88 : decode cX11_numberHere 88 = .ok (.aload_n 0, 1) := by decide +kernel
theorem dX11_numberHere_89 : decode cX11_numberHere 89 = .ok (.iload 4, 2) := by decide +kernel
theorem dX11_numberHere_91 : decode cX11_numberHere 91 = .ok (.putfield 115, 3) := by decide +kernel
theorem dX11_numberHere_94 : decode cX11_numberHere 94 = .ok (.aload_n 0, 1) := by decide +kernel
theorem dX11_numberHere_95 : decode cX11_numberHere 95 = .ok (.getfield 90, 3) := by decide +kernel
theorem dX11_numberHere_98 : decode cX11_numberHere 98 = .ok (.iload_n 3, 1) := by decide +kernel
theorem dX11_numberHere_99 : decode cX11_numberHere 99 = .ok (.isub, 1) := by decide +kernel
theorem dX11_numberHere_100 : decode cX11_numberHere 100 = .ok (.iconst 5, 1) := by decide +kernel
theorem dX11_numberHere_101 : decode cX11_numberHere 101 = .ok (.if_icmp .gt 16, 3) := by decide +kernel
theorem dX11_numberHere_117 : decode cX11_numberHere 117 = .ok (.aload_n 0, 1) := by decide +kernel
theorem dX11_numberHere_118 : decode cX11_numberHere 118 = .ok (.iconst 1, 1) := by decide +kernel
theorem dX11_numberHere_119 : decode cX11_numberHere 119 = .ok (.iload_n 3, 1) := by decide +kernel
theorem dX11_numberHere_120 : decode cX11_numberHere 120 = .ok (.invokevirtual 111, 3) := by decide +kernel
theorem dX11_numberHere_123 : decode cX11_numberHere 123 = .ok (.ifCond .eq 7, 3) := by decide +kernel
theorem dX11_numberHere_130 : decode cX11_numberHere 130 = .ok (.iconst 0, 1) := by decide +kernel
theorem dX11_numberHere_104 : decode cX11_numberHere 104 = .ok (.iload 4, 2) := by decide +kernel
theorem dX11_numberHere_106 : decode cX11_numberHere 106 = .ok (.i2l, 1) := by decide +kernel
theorem dX11_numberHere_107 : decode cX11_numberHere 107 = .ok (.iload_n 1, 1) := by decide +kernel
theorem dX11_numberHere_108 : decode cX11_numberHere 108 = .ok (.i2l, 1) := by decide +kernel
theorem dX11_numberHere_109 : decode cX11_numberHere 109 = .ok (.iload_n 2, 1) := by decide +kernel
theorem dX11_numberHere_110 : decode cX11_numberHere 110 = .ok (.i2l, 1) := by decide +kernel
theorem dX11_numberHere_111 : decode cX11_numberHere 111 = .ok (.invokestatic 118, 3) := by decide +kernel
theorem dX11_numberHere_114 : decode cX11_numberHere 114 = .ok (.ifCond .ne 12, 3) := by decide +kernel
theorem dX11_numberHere_126 : decode cX11_numberHere 126 = .ok (.iconst 1, 1) := by decide +kernel
theorem dX11_numberHere_127 : decode cX11_numberHere 127 = .ok (.goto 4, 3) := by decide +kernel
theorem dX11_numberHere_25 : decode cX11_numberHere 25 = .ok (.ireturn, 1) := by decide +kernel
theorem dX11_numberHere_131 : decode cX11_numberHere 131 = .ok (.ireturn, 1) := by decide +kernel

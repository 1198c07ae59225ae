theorem kX11_push_1 {a : Array Value} {s : State} (hts : ∀ w ∈ wsX11_push, w.before a s = true) : (.fieldLink RX11 32 "SnowMulesModel" "stack" "[J" : Cond).before a s = true := hts _ (List.mem_of_getElem? (i := 1) (by decide +kernel))
theorem kX11_push_2 {a : Array Value} {s : State} (hts : ∀ w ∈ wsX11_push, w.before a s = true) : (.fieldLink RX11 238 "SnowMulesModel" "top" "I" : Cond).before a s = true := hts _ (List.mem_of_getElem? (i := 2) (by decide +kernel))
theorem kX11_pop_1 {a : Array Value} {s : State} (hts : ∀ w ∈ wsX11_pop, w.before a s = true) : (.fieldLink RX11 238 "SnowMulesModel" "top" "I" : Cond).before a s = true := hts _ (List.mem_of_getElem? (i := 1) (by decide +kernel))
theorem kX11_pop_2 {a : Array Value} {s : State} (hts : ∀ w ∈ wsX11_pop, w.before a s = true) : (.fieldLink RX11 32 "SnowMulesModel" "stack" "[J" : Cond).before a s = true := hts _ (List.mem_of_getElem? (i := 2) (by decide +kernel))
theorem kX11_reckons_1 {a : Array Value} {s : State} (hts : ∀ w ∈ wsX11_reckons, w.before a s = true) : (.fieldLink RX11 238 "SnowMulesModel" "top" "I" : Cond).before a s = true := hts _ (List.mem_of_getElem? (i := 1) (by decide +kernel))
theorem kX11_reckons_2 {a : Array Value} {s : State} (hts : ∀ w ∈ wsX11_reckons, w.before a s = true) : (.fieldLink RX11 13 "SnowMulesModel" "sign" "[I" : Cond).before a s = true := hts _ (List.mem_of_getElem? (i := 2) (by decide +kernel))
theorem kX11_reckons_3 {a : Array Value} {s : State} (hts : ∀ w ∈ wsX11_reckons, w.before a s = true) : (.fieldLink RX11 36 "SnowMulesModel" "word" "[J" : Cond).before a s = true := hts _ (List.mem_of_getElem? (i := 3) (by decide +kernel))
theorem iX11_push_X11 : ∀ w ∈ wsX110, w ∈ wsX11_push := by decide +kernel
theorem iX11_pop_X11 : ∀ w ∈ wsX110, w ∈ wsX11_pop := by decide +kernel
theorem iX11_reckons_X11 : ∀ w ∈ wsX110, w ∈ wsX11_reckons := by decide +kernel
theorem dX11_push_0 : decode cX11_push 0 = .ok (.aload_n 0, 1) := by decide +kernel
theorem dX11_push_1 : decode cX11_push 1 = .ok (.getfield 32, 3) := by decide +kernel
theorem dX11_push_4 : decode cX11_push 4 = .ok (.aload_n 0, 1) := by decide +kernel
theorem dX11_push_5 : decode cX11_push 5 = .ok (.getfield 238, 3) := by decide +kernel
theorem dX11_push_8 : decode cX11_push 8 = .ok (.lload_n 1, 1) := by decide +kernel
theorem dX11_push_9 : decode cX11_push 9 = .ok (.lastore, 1) := by decide +kernel
theorem dX11_push_10 : decode cX11_push 10 = .ok (.aload_n 0, 1) := by decide +kernel
theorem dX11_push_11 : decode cX11_push 11 = .ok (.dup, 1) := by decide +kernel
theorem dX11_push_12 : decode cX11_push 12 = .ok (.getfield 238, 3) := by decide +kernel
theorem dX11_push_15 : decode cX11_push 15 = .ok (.iconst 1, 1) := by decide +kernel
theorem dX11_push_16 : decode cX11_push 16 = .ok (.iadd, 1) := by decide +kernel
theorem dX11_push_17 : decode cX11_push 17 = .ok (.putfield 238, 3) := by decide +kernel
theorem dX11_push_20 : decode cX11_push 20 = .ok (.return_, 1) := by decide +kernel
theorem dX11_pop_0 : decode cX11_pop 0 = .ok (.aload_n 0, 1) := by decide +kernel
theorem dX11_pop_1 : decode cX11_pop 1 = .ok (.dup, 1) := by decide +kernel
theorem dX11_pop_2 : decode cX11_pop 2 = .ok (.getfield 238, 3) := by decide +kernel
theorem dX11_pop_5 : decode cX11_pop 5 = .ok (.iconst 1, 1) := by decide +kernel
theorem dX11_pop_6 : decode cX11_pop 6 = .ok (.isub, 1) := by decide +kernel
theorem dX11_pop_7 : decode cX11_pop 7 = .ok (.putfield 238, 3) := by decide +kernel
theorem dX11_pop_10 : decode cX11_pop 10 = .ok (.aload_n 0, 1) := by decide +kernel
theorem dX11_pop_11 : decode cX11_pop 11 = .ok (.getfield 32, 3) := by decide +kernel
theorem dX11_pop_14 : decode cX11_pop 14 = .ok (.aload_n 0, 1) := by decide +kernel
theorem dX11_pop_15 : decode cX11_pop 15 = .ok (.getfield 238, 3) := by decide +kernel
theorem dX11_pop_18 : decode cX11_pop 18 = .ok (.laload, 1) := by decide +kernel
theorem dX11_pop_19 : decode cX11_pop 19 = .ok (.lreturn, 1) := by decide +kernel
theorem dX11_one_0 : decode cX11_one 0 = .ok (.iload_n 0, 1) := by decide +kernel
theorem dX11_one_1 : decode cX11_one 1 = .ok (.tableswitch 149 2 12 #[59, 63, 67, 71, 85, 97, 109, 121, 133, 149, 145], 59) := by decide +kernel
theorem dX11_one_150 : decode cX11_one 150 = .ok (.lload_n 1, 1) := by decide +kernel
theorem dX11_one_151 : decode cX11_one 151 = .ok (.lload_n 3, 1) := by decide +kernel
theorem dX11_one_152 : decode cX11_one 152 = .ok (.lor, 1) := by decide +kernel
theorem dX11_one_153 : decode cX11_one 153 = .ok (.lreturn, 1) := by decide +kernel
theorem dX11_one_60 : decode cX11_one 60 = .ok (.lload_n 1, 1) := by decide +kernel
theorem dX11_one_61 : decode cX11_one 61 = .ok (.lload_n 3, 1) := by decide +kernel
theorem dX11_one_62 : decode cX11_one 62 = .ok (.ladd, 1) := by decide +kernel
theorem dX11_one_63 : decode cX11_one 63 = .ok (.lreturn, 1) := by decide +kernel
theorem dX11_one_64 : decode cX11_one 64 = .ok (.lload_n 1, 1) := by decide +kernel
theorem dX11_one_65 : decode cX11_one 65 = .ok (.lload_n 3, 1) := by decide +kernel
theorem dX11_one_66 : decode cX11_one 66 = .ok (.lsub, 1) := by decide +kernel
theorem dX11_one_67 : decode cX11_one 67 = .ok (.lreturn, 1) := by decide +kernel
theorem dX11_one_68 : decode cX11_one 68 = .ok (.lload_n 1, 1) := by decide +kernel
theorem dX11_one_69 : decode cX11_one 69 = .ok (.lload_n 3, 1) := by decide +kernel
theorem dX11_one_70 : decode cX11_one 70 = .ok (.lmul, 1) := by decide +kernel
theorem dX11_one_71 : decode cX11_one 71 = .ok (.lreturn, 1) := by decide +kernel
theorem dX11_one_72 : decode cX11_one 72 = .ok (.lload_n 3, 1) := by decide +kernel
theorem dX11_one_73 : decode cX11_one 73 = .ok (.lconst 0, 1) := by decide +kernel
theorem dX11_one_74 : decode cX11_one 74 = .ok (.lcmp, 1) := by decide +kernel
theorem dX11_one_75 : decode cX11_one 75 = .ok (.ifCond .ne 7, 3) := by decide +kernel
theorem dX11_one_82 : decode cX11_one 82 = .ok (.lload_n 1, 1) := by decide +kernel
theorem dX11_one_83 : decode cX11_one 83 = .ok (.lload_n 3, 1) := by decide +kernel
theorem dX11_one_84 : decode cX11_one 84 = .ok (.ldiv, 1) := by decide +kernel
theorem dX11_one_85 : decode cX11_one 85 = .ok (.lreturn, 1) := by decide +kernel
theorem dX11_one_78 : decode cX11_one 78 = .ok (.lconst 0, 1) := by decide +kernel
theorem dX11_one_79 : decode cX11_one 79 = .ok (.goto 6, 3) := by decide +kernel
theorem dX11_one_86 : decode cX11_one 86 = .ok (.lload_n 1, 1) := by decide +kernel
theorem dX11_one_87 : decode cX11_one 87 = .ok (.lload_n 3, 1) := by decide +kernel
theorem dX11_one_88 : decode cX11_one 88 = .ok (.lcmp, 1) := by decide +kernel
theorem dX11_one_89 : decode cX11_one 89 = .ok (.ifCond .ge 7, 3) := by decide +kernel
theorem dX11_one_96 : decode cX11_one 96 = .ok (.lconst 0, 1) := by decide +kernel
theorem dX11_one_97 : decode cX11_one 97 = .ok (.lreturn, 1) := by decide +kernel
theorem dX11_one_92 : decode cX11_one 92 = .ok (.lconst 1, 1) := by decide +kernel
theorem dX11_one_93 : decode cX11_one 93 = .ok (.goto 4, 3) := by decide +kernel
theorem dX11_one_98 : decode cX11_one 98 = .ok (.lload_n 1, 1) := by decide +kernel
theorem dX11_one_99 : decode cX11_one 99 = .ok (.lload_n 3, 1) := by decide +kernel
theorem dX11_one_100 : decode cX11_one 100 = .ok (.lcmp, 1) := by decide +kernel
theorem dX11_one_101 : decode cX11_one 101 = .ok (.ifCond .gt 7, 3) := by decide +kernel
theorem dX11_one_108 : decode cX11_one 108 = .ok (.lconst 0, 1) := by decide +kernel
theorem dX11_one_109 : decode cX11_one 109 = .ok (.lreturn, 1) := by decide +kernel
theorem dX11_one_104 : decode cX11_one 104 = .ok (.lconst 1, 1) := by decide +kernel
theorem dX11_one_105 : decode cX11_one 105 = .ok (.goto 4, 3) := by decide +kernel
theorem dX11_one_110 : decode cX11_one 110 = .ok (.lload_n 1, 1) := by decide +kernel
theorem dX11_one_111 : decode cX11_one 111 = .ok (.lload_n 3, 1) := by decide +kernel
theorem dX11_one_112 : decode cX11_one 112 = .ok (.lcmp, 1) := by decide +kernel
theorem dX11_one_113 : decode cX11_one 113 = .ok (.ifCond .ne 7, 3) := by decide +kernel
theorem dX11_one_120 : decode cX11_one 120 = .ok (.lconst 0, 1) := by decide +kernel
theorem dX11_one_121 : decode cX11_one 121 = .ok (.lreturn, 1) := by decide +kernel
theorem dX11_one_116 : decode cX11_one 116 = .ok (.lconst 1, 1) := by decide +kernel
theorem dX11_one_117 : decode cX11_one 117 = .ok (.goto 4, 3) := by decide +kernel
theorem dX11_one_122 : decode cX11_one 122 = .ok (.lload_n 1, 1) := by decide +kernel
theorem dX11_one_123 : decode cX11_one 123 = .ok (.lload_n 3, 1) := by decide +kernel
theorem dX11_one_124 : decode cX11_one 124 = .ok (.lcmp, 1) := by decide +kernel
theorem dX11_one_125 : decode cX11_one 125 = .ok (.ifCond .lt 7, 3) := by decide +kernel
theorem dX11_one_132 : decode cX11_one 132 = .ok (.lconst 0, 1) := by decide +kernel
theorem dX11_one_133 : decode cX11_one 133 = .ok (.lreturn, 1) := by decide +kernel
theorem dX11_one_128 : decode cX11_one 128 = .ok (.lconst 1, 1) := by decide +kernel
theorem dX11_one_129 : decode cX11_one 129 = .ok (.goto 4, 3) := by decide +kernel
theorem dX11_one_134 : decode cX11_one 134 = .ok (.lload_n 1, 1) := by decide +kernel
theorem dX11_one_135 : decode cX11_one 135 = .ok (.lload_n 3, 1) := by decide +kernel
theorem dX11_one_136 : decode cX11_one 136 = .ok (.lcmp, 1) := by decide +kernel
theorem dX11_one_137 : decode cX11_one 137 = .ok (.ifCond .le 7, 3) := by decide +kernel
theorem dX11_one_144 : decode cX11_one 144 = .ok (.lconst 0, 1) := by decide +kernel
theorem dX11_one_145 : decode cX11_one 145 = .ok (.lreturn, 1) := by decide +kernel
theorem dX11_one_140 : decode cX11_one 140 = .ok (.lconst 1, 1) := by decide +kernel
theorem dX11_one_141 : decode cX11_one 141 = .ok (.goto 4, 3) := by decide +kernel
theorem dX11_one_146 : decode cX11_one 146 = .ok (.lload_n 1, 1) := by decide +kernel
theorem dX11_one_147 : decode cX11_one 147 = .ok (.lload_n 3, 1) := by decide +kernel
theorem dX11_one_148 : decode cX11_one 148 = .ok (.land, 1) := by decide +kernel
theorem dX11_one_149 : decode cX11_one 149 = .ok (.lreturn, 1) := by decide +kernel
theorem dX11_reckons_0 : decode cX11_reckons 0 = .ok (.aload_n 0, 1) := by decide +kernel
theorem dX11_reckons_1 : decode cX11_reckons 1 = .ok (.iconst 0, 1) := by decide +kernel
theorem dX11_reckons_2 : decode cX11_reckons 2 = .ok (.putfield 238, 3) := by decide +kernel
theorem dX11_reckons_5 : decode cX11_reckons 5 = .ok (.iload_n 2, 1) := by decide +kernel
theorem dX11_reckons_6 : decode cX11_reckons 6 = .ok (.istore 4, 2) := by decide +kernel
theorem dX11_reckons_8 : decode cX11_reckons 8 = .ok (.iload 4, 2) := by decide +kernel
theorem dX11_reckons_10 : decode cX11_reckons 10 = .ok (.iload_n 3, 1) := by decide +kernel
theorem dX11_reckons_11 : decode cX11_reckons 11 = .ok (.if_icmp .ge 124, 3) := by decide +kernel
theorem dX11_reckons_14 : decode cX11_reckons 14 = .ok (.aload_n 0, 1) := by decide +kernel
theorem dX11_reckons_15 : decode cX11_reckons 15 = .ok (.getfield 13, 3) := by decide +kernel
theorem dX11_reckons_18 : decode cX11_reckons 18 = .ok (.sipush 400, 3) := by decide +kernel
theorem dX11_reckons_21 : decode cX11_reckons 21 = .ok (.iload_n 1, 1) := by decide +kernel
theorem dX11_reckons_22 : decode cX11_reckons 22 = .ok (.imul, 1) := by decide +kernel
theorem dX11_reckons_23 : decode cX11_reckons 23 = .ok (.iload 4, 2) := by decide +kernel
theorem dX11_reckons_25 : decode cX11_reckons 25 = .ok (.iadd, 1) := by decide +kernel
theorem dX11_reckons_26 : decode cX11_reckons 26 = .ok (.iaload, 1) := by decide +kernel
theorem dX11_reckons_27 : decode cX11_reckons 27 = .ok (.bipush 15, 2) := by decide +kernel
theorem dX11_reckons_29 : decode cX11_reckons 29 = .ok (.iand, 1) := by decide +kernel
theorem dX11_reckons_30 : decode cX11_reckons 30 = .ok (.istore 5, 2) := by decide +kernel
theorem dX11_reckons_32 : decode cX11_reckons 32 = .ok (.aload_n 0, 1) := by decide +kernel
theorem dX11_reckons_33 : decode cX11_reckons 33 = .ok (.getfield 13, 3) := by decide +kernel
theorem dX11_reckons_36 : decode cX11_reckons 36 = .ok (.sipush 400, 3) := by decide +kernel
theorem dX11_reckons_39 : decode cX11_reckons 39 = .ok (.iload_n 1, 1) := by decide +kernel
theorem dX11_reckons_40 : decode cX11_reckons 40 = .ok (.imul, 1) := by decide +kernel
theorem dX11_reckons_41 : decode cX11_reckons 41 = .ok (.iload 4, 2) := by decide +kernel
theorem dX11_reckons_43 : decode cX11_reckons 43 = .ok (.iadd, 1) := by decide +kernel
theorem dX11_reckons_44 : decode cX11_reckons 44 = .ok (.iaload, 1) := by decide +kernel
theorem dX11_reckons_45 : decode cX11_reckons 45 = .ok (.iconst 4, 1) := by decide +kernel
theorem dX11_reckons_46 : decode cX11_reckons 46 = .ok (.ishr, 1) := by decide +kernel
theorem dX11_reckons_47 : decode cX11_reckons 47 = .ok (.istore 6, 2) := by decide +kernel
theorem dX11_reckons_49 : decode cX11_reckons 49 = .ok (.iload 5, 2) := by decide +kernel
theorem dX11_reckons_51 : decode cX11_reckons 51 = .ok (.ifCond .ne 13, 3) := by decide +kernel
theorem dX11_reckons_64 : decode cX11_reckons 64 = .ok (.iload 5, 2) := by decide +kernel
theorem dX11_reckons_66 : decode cX11_reckons 66 = .ok (.iconst 1, 1) := by decide +kernel
theorem dX11_reckons_67 : decode cX11_reckons 67 = .ok (.if_icmp .ne 17, 3) := by decide +kernel
theorem dX11_reckons_84 : decode cX11_reckons 84 = .ok (.iload 5, 2) := by decide +kernel
theorem dX11_reckons_86 : decode cX11_reckons 86 = .ok (.bipush 11, 2) := by decide +kernel
theorem dX11_reckons_88 : decode cX11_reckons 88 = .ok (.if_icmp .ne 16, 3) := by decide +kernel
theorem dX11_reckons_104 : decode cX11_reckons 104 = .ok (.aload_n 0, 1) := by decide +kernel
theorem dX11_reckons_105 : decode cX11_reckons 105 = .ok (.invokevirtual 245, 3) := by decide +kernel
theorem dX11_reckons_108 : decode cX11_reckons 108 = .ok (.lstore 7, 2) := by decide +kernel
theorem dX11_reckons_110 : decode cX11_reckons 110 = .ok (.aload_n 0, 1) := by decide +kernel
theorem dX11_reckons_111 : decode cX11_reckons 111 = .ok (.invokevirtual 245, 3) := by decide +kernel
theorem dX11_reckons_114 : decode cX11_reckons 114 = .ok (.lstore 9, 2) := by decide +kernel
theorem dX11_reckons_116 : decode cX11_reckons 116 = .ok (.aload_n 0, 1) := by decide +kernel
theorem dX11_reckons_117 : decode cX11_reckons 117 = .ok (.iload 5, 2) := by decide +kernel
theorem dX11_reckons_119 : decode cX11_reckons 119 = .ok (.lload 9, 2) := by decide +kernel
theorem dX11_reckons_121 : decode cX11_reckons 121 = .ok (.lload 7, 2) := by decide +kernel
theorem dX11_reckons_123 : decode cX11_reckons 123 = .ok (.invokestatic 249, 3) := by decide +kernel
theorem dX11_reckons_126 : decode cX11_reckons 126 = .ok (.invokevirtual 241, 3) := by decide +kernel
theorem dX11_reckons_129 : decode cX11_reckons 129 = .ok (.iinc 4 1, 3) := by decide +kernel
theorem dX11_reckons_132 : decode cX11_reckons 132 = .ok (.goto (-124), 3) := by decide +kernel
theorem dX11_reckons_91 : decode cX11_reckons 91 = .ok (.aload_n 0, 1) := by decide +kernel
theorem dX11_reckons_92 : decode cX11_reckons 92 = .ok (.lconst 1, 1) := by decide +kernel
theorem dX11_reckons_93 : decode cX11_reckons 93 = .ok (.aload_n 0, 1) := by decide +kernel
theorem dX11_reckons_94 : decode cX11_reckons 94 = .ok (.invokevirtual 245, 3) := by decide +kernel
theorem dX11_reckons_97 : decode cX11_reckons 97 = .ok (.lsub, 1) := by decide +kernel
theorem dX11_reckons_98 : decode cX11_reckons 98 = .ok (.invokevirtual 241, 3) := by decide +kernel
theorem dX11_reckons_101 : decode cX11_reckons 101 = .ok (.goto 28, 3) := by decide +kernel
theorem dX11_reckons_70 : decode cX11_reckons 70 = .ok (.aload_n 0, 1) := by decide +kernel
theorem dX11_reckons_71 : decode cX11_reckons 71 = .ok (.aload_n 0, 1) := by decide +kernel
theorem dX11_reckons_72 : decode cX11_reckons 72 = .ok (.getfield 36, 3) := by decide +kernel
theorem dX11_reckons_75 : decode cX11_reckons 75 = .ok (.iload 6, 2) := by decide +kernel
theorem dX11_reckons_77 : decode cX11_reckons 77 = .ok (.laload, 1) := by decide +kernel
theorem dX11_reckons_78 : decode cX11_reckons 78 = .ok (.invokevirtual 241, 3) := by decide +kernel
theorem dX11_reckons_81 : decode cX11_reckons 81 = .ok (.goto 48, 3) := by decide +kernel
theorem dX11_reckons_54 : decode cX11_reckons 54 = .ok (.aload_n 0, 1) := by decide +kernel
theorem dX11_reckons_55 : decode cX11_reckons 55 = .ok (.iload 6, 2) := by decide +kernel
theorem dX11_reckons_57 : decode cX11_reckons 57 = .ok (.i2l, 1) := by decide +kernel
theorem dX11_reckons_58 : decode cX11_reckons 58 = .ok (.invokevirtual 241, 3) := by decide +kernel
theorem dX11_reckons_61 : decode cX11_reckons 61 = .ok (.goto 68, 3) := by decide +kernel
theorem dX11_reckons_135 : decode cX11_reckons 135 = .ok (.aload_n 0, 1) := by decide +kernel
theorem dX11_reckons_136 : decode cX11_reckons 136 = .ok (.invokevirtual 245, 3) := by decide +kernel
theorem dX11_reckons_139 : decode cX11_reckons 139 = .ok (.lreturn, 1) := by decide +kernel

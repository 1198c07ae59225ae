theorem kX11_compare_1 {a : Array Value} {s : State} (hts : ∀ w ∈ wsX11_compare, w.before a s = true) : (.fieldLink RX11 90 "SnowMulesModel" "next" "I" : Cond).before a s = true := hts _ (List.mem_of_getElem? (i := 1) (by decide +kernel))
theorem kX11_compare_2 {a : Array Value} {s : State} (hts : ∀ w ∈ wsX11_compare, w.before a s = true) : (.fieldLink RX11 79 "SnowMulesModel" "taped" "I" : Cond).before a s = true := hts _ (List.mem_of_getElem? (i := 2) (by decide +kernel))
theorem kX11_compare_3 {a : Array Value} {s : State} (hts : ∀ w ∈ wsX11_compare, w.before a s = true) : (.fieldLink RX11 7 "SnowMulesModel" "tape" "[B" : Cond).before a s = true := hts _ (List.mem_of_getElem? (i := 3) (by decide +kernel))
theorem iX11_compare_X11 : ∀ w ∈ wsX110, w ∈ wsX11_compare := by decide +kernel
theorem dX11_compare_0 : decode cX11_compare 0 = .ok (.aload_n 0, 1) := by decide +kernel
theorem dX11_compare_1 : decode cX11_compare 1 = .ok (.invokevirtual 181, 3) := by decide +kernel
theorem dX11_compare_4 : decode cX11_compare 4 = .ok (.ifCond .ne 5, 3) := by decide +kernel
theorem dX11_compare_9 : decode cX11_compare 9 = .ok (.aload_n 0, 1) := by decide +kernel
theorem dX11_compare_10 : decode cX11_compare 10 = .ok (.invokevirtual 93, 3) := by decide +kernel
theorem dX11_compare_13 : decode cX11_compare 13 = .ok (.istore_n 1, 1) := by decide +kernel
theorem dX11_compare_14 : decode cX11_compare 14 = .ok (.aload_n 0, 1) := by decide +kernel
theorem dX11_compare_15 : decode cX11_compare 15 = .ok (.getfield 90, 3) := by decide +kernel
theorem dX11_compare_18 : decode cX11_compare 18 = .ok (.istore_n 2, 1) := by decide +kernel
theorem dX11_compare_19 : decode cX11_compare 19 = .ok (.iload_n 1, 1) := by decide +kernel
theorem dX11_compare_20 : decode cX11_compare 20 = .ok (.bipush 60, 2) := by decide +kernel
theorem dX11_compare_22 : decode cX11_compare 22 = .ok (.if_icmp .eq 22, 3) := by decide +kernel
theorem dX11_compare_44 : decode cX11_compare 44 = .ok (.aload_n 0, 1) := by decide +kernel
theorem dX11_compare_45 : decode cX11_compare 45 = .ok (.dup, 1) := by decide +kernel
theorem dX11_compare_46 : decode cX11_compare 46 = .ok (.getfield 90, 3) := by decide +kernel
theorem dX11_compare_49 : decode cX11_compare 49 = .ok (.iconst 1, 1) := by decide +kernel
theorem dX11_compare_50 : decode cX11_compare 50 = .ok (.iadd, 1) := by decide +kernel
theorem dX11_compare_51 : decode cX11_compare 51 = .ok (.putfield 90, 3) := by decide +kernel
theorem dX11_compare_54 : decode cX11_compare 54 = .ok (.iload_n 1, 1) := by decide +kernel
theorem dX11_compare_55 : decode cX11_compare 55 = .ok (.bipush 61, 2) := by decide +kernel
theorem dX11_compare_57 : decode cX11_compare 57 = .ok (.if_icmp .eq 32, 3) := by decide +kernel
theorem dX11_compare_89 : decode cX11_compare 89 = .ok (.iconst 0, 1) := by decide +kernel
theorem dX11_compare_90 : decode cX11_compare 90 = .ok (.istore_n 3, 1) := by decide +kernel
theorem dX11_compare_91 : decode cX11_compare 91 = .ok (.iload_n 3, 1) := by decide +kernel
theorem dX11_compare_92 : decode cX11_compare 92 = .ok (.ifCond .eq 13, 3) := by decide +kernel
theorem dX11_compare_105 : decode cX11_compare 105 = .ok (.aload_n 0, 1) := by decide +kernel
theorem dX11_compare_106 : decode cX11_compare 106 = .ok (.iload_n 2, 1) := by decide +kernel
theorem dX11_compare_107 : decode cX11_compare 107 = .ok (.invokevirtual 168, 3) := by decide +kernel
theorem dX11_compare_110 : decode cX11_compare 110 = .ok (.ifCond .ne 5, 3) := by decide +kernel
theorem dX11_compare_115 : decode cX11_compare 115 = .ok (.iload_n 1, 1) := by decide +kernel
theorem dX11_compare_116 : decode cX11_compare 116 = .ok (.bipush 60, 2) := by decide +kernel
theorem dX11_compare_118 : decode cX11_compare 118 = .ok (.if_icmp .ne 15, 3) := by decide +kernel
theorem dX11_compare_121 : decode cX11_compare 121 = .ok (.iload_n 3, 1) := by decide +kernel
theorem dX11_compare_122 : decode cX11_compare 122 = .ok (.ifCond .eq 7, 3) := by decide +kernel
theorem dX11_compare_129 : decode cX11_compare 129 = .ok (.iconst 0, 1) := by decide +kernel
theorem dX11_compare_130 : decode cX11_compare 130 = .ok (.goto 22, 3) := by decide +kernel
theorem dX11_compare_152 : decode cX11_compare 152 = .ok (.istore 4, 2) := by decide +kernel
theorem dX11_compare_154 : decode cX11_compare 154 = .ok (.aload_n 0, 1) := by decide +kernel
theorem dX11_compare_155 : decode cX11_compare 155 = .ok (.invokevirtual 181, 3) := by decide +kernel
theorem dX11_compare_158 : decode cX11_compare 158 = .ok (.ifCond .ne 5, 3) := by decide +kernel
theorem dX11_compare_163 : decode cX11_compare 163 = .ok (.aload_n 0, 1) := by decide +kernel
theorem dX11_compare_164 : decode cX11_compare 164 = .ok (.bipush 6, 2) := by decide +kernel
theorem dX11_compare_166 : decode cX11_compare 166 = .ok (.iload 4, 2) := by decide +kernel
theorem dX11_compare_168 : decode cX11_compare 168 = .ok (.iadd, 1) := by decide +kernel
theorem dX11_compare_169 : decode cX11_compare 169 = .ok (.iconst 0, 1) := by decide +kernel
theorem dX11_compare_170 : decode cX11_compare 170 = .ok (.invokevirtual 160, 3) := by decide +kernel
theorem dX11_compare_173 : decode cX11_compare 173 = .ok (.iconst 1, 1) := by decide +kernel
theorem dX11_compare_161 : decode cX11_compare 161 = .ok (.iconst 0, 1) := by decide +kernel
theorem dX11_compare_113 : decode cX11_compare 113 = .ok (.iconst 0, 1) := by decide +kernel
theorem dX11_compare_60 : decode cX11_compare 60 = .ok (.aload_n 0, 1) := by decide +kernel
theorem dX11_compare_61 : decode cX11_compare 61 = .ok (.getfield 90, 3) := by decide +kernel
theorem dX11_compare_64 : decode cX11_compare 64 = .ok (.aload_n 0, 1) := by decide +kernel
theorem dX11_compare_65 : decode cX11_compare 65 = .ok (.getfield 79, 3) := by decide +kernel
theorem dX11_compare_68 : decode cX11_compare 68 = .ok (.if_icmp .ge 21, 3) := by decide +kernel
theorem dX11_compare_71 : decode cX11_compare 71 = .ok (.aload_n 0, 1) := by decide +kernel
theorem dX11_compare_72 : decode cX11_compare 72 = .ok (.getfield 7, 3) := by decide +kernel
theorem dX11_compare_75 : decode cX11_compare 75 = .ok (.aload_n 0, 1) := by decide +kernel
theorem dX11_compare_76 : decode cX11_compare 76 = .ok (.getfield 90, 3) := by decide +kernel
theorem dX11_compare_79 : decode cX11_compare 79 = .ok (.baload, 1) := by decide +kernel
theorem dX11_compare_80 : decode cX11_compare 80 = .ok (.bipush 61, 2) := by decide +kernel
theorem dX11_compare_82 : decode cX11_compare 82 = .ok (.if_icmp .ne 7, 3) := by decide +kernel
theorem dX11_compare_85 : decode cX11_compare 85 = .ok (.iconst 1, 1) := by decide +kernel
theorem dX11_compare_86 : decode cX11_compare 86 = .ok (.goto 4, 3) := by decide +kernel
theorem dX11_compare_95 : decode cX11_compare 95 = .ok (.aload_n 0, 1) := by decide +kernel
theorem dX11_compare_96 : decode cX11_compare 96 = .ok (.dup, 1) := by decide +kernel
theorem dX11_compare_97 : decode cX11_compare 97 = .ok (.getfield 90, 3) := by decide +kernel
theorem dX11_compare_100 : decode cX11_compare 100 = .ok (.iconst 1, 1) := by decide +kernel
theorem dX11_compare_101 : decode cX11_compare 101 = .ok (.iadd, 1) := by decide +kernel
theorem dX11_compare_102 : decode cX11_compare 102 = .ok (.putfield 90, 3) := by decide +kernel
theorem dX11_compare_125 : decode cX11_compare 125 = .ok (.iconst 1, 1) := by decide +kernel
theorem dX11_compare_126 : decode cX11_compare 126 = .ok (.goto 26, 3) := by decide +kernel
theorem dX11_compare_25 : decode cX11_compare 25 = .ok (.iload_n 1, 1) := by decide +kernel
theorem dX11_compare_26 : decode cX11_compare 26 = .ok (.bipush 61, 2) := by decide +kernel
theorem dX11_compare_28 : decode cX11_compare 28 = .ok (.if_icmp .eq 16, 3) := by decide +kernel
theorem dX11_compare_133 : decode cX11_compare 133 = .ok (.iload_n 1, 1) := by decide +kernel
theorem dX11_compare_134 : decode cX11_compare 134 = .ok (.bipush 61, 2) := by decide +kernel
theorem dX11_compare_136 : decode cX11_compare 136 = .ok (.if_icmp .ne 7, 3) := by decide +kernel
theorem dX11_compare_139 : decode cX11_compare 139 = .ok (.iconst 2, 1) := by decide +kernel
theorem dX11_compare_140 : decode cX11_compare 140 = .ok (.goto 12, 3) := by decide +kernel
theorem dX11_compare_31 : decode cX11_compare 31 = .ok (.iload_n 1, 1) := by decide +kernel
theorem dX11_compare_32 : decode cX11_compare 32 = .ok (.bipush 62, 2) := by decide +kernel
theorem dX11_compare_34 : decode cX11_compare 34 = .ok (.if_icmp .eq 10, 3) := by decide +kernel
theorem dX11_compare_143 : decode cX11_compare 143 = .ok (.iload_n 3, 1) := by decide +kernel
theorem dX11_compare_144 : decode cX11_compare 144 = .ok (.ifCond .eq 7, 3) := by decide +kernel
theorem dX11_compare_151 : decode cX11_compare 151 = .ok (.iconst 4, 1) := by decide +kernel
theorem dX11_compare_147 : decode cX11_compare 147 = .ok (.iconst 3, 1) := by decide +kernel
theorem dX11_compare_148 : decode cX11_compare 148 = .ok (.goto 4, 3) := by decide +kernel
theorem dX11_compare_37 : decode cX11_compare 37 = .ok (.aload_n 0, 1) := by decide +kernel
theorem dX11_compare_38 : decode cX11_compare 38 = .ok (.iconst 0, 1) := by decide +kernel
theorem dX11_compare_39 : decode cX11_compare 39 = .ok (.iload_n 2, 1) := by decide +kernel
theorem dX11_compare_40 : decode cX11_compare 40 = .ok (.invokevirtual 111, 3) := by decide +kernel
theorem dX11_compare_7 : decode cX11_compare 7 = .ok (.iconst 0, 1) := by decide +kernel
theorem dX11_compare_174 : decode cX11_compare 174 = .ok (.ireturn, 1) := by decide +kernel
theorem dX11_compare_162 : decode cX11_compare 162 = .ok (.ireturn, 1) := by decide +kernel
theorem dX11_compare_114 : decode cX11_compare 114 = .ok (.ireturn, 1) := by decide +kernel
theorem dX11_compare_43 : decode cX11_compare 43 = .ok (.ireturn, 1) := by decide +kernel
theorem dX11_compare_8 : decode cX11_compare 8 = .ok (.ireturn, 1) := by decide +kernel

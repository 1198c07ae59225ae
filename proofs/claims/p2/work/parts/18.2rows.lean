theorem kX11_servesBy_1 {a : Array Value} {s : State} (hts : ∀ w ∈ wsX11_servesBy, w.before a s = true) : (.fieldLink RX11 413 "SnowMulesModel" "bestLeft" "I" : Cond).before a s = true := hts _ (List.mem_of_getElem? (i := 1) (by decide +kernel))
theorem kX11_servesBy_2 {a : Array Value} {s : State} (hts : ∀ w ∈ wsX11_servesBy, w.before a s = true) : (.fieldLink RX11 39 "SnowMulesModel" "said" "[I" : Cond).before a s = true := hts _ (List.mem_of_getElem? (i := 2) (by decide +kernel))
theorem kX11_serves_1 {a : Array Value} {s : State} (hts : ∀ w ∈ wsX11_serves, w.before a s = true) : (.fieldLink RX11 39 "SnowMulesModel" "said" "[I" : Cond).before a s = true := hts _ (List.mem_of_getElem? (i := 1) (by decide +kernel))
theorem kX11_priceFrom_1 {a : Array Value} {s : State} (hts : ∀ w ∈ wsX11_priceFrom, w.before a s = true) : (.fieldLink RX11 39 "SnowMulesModel" "said" "[I" : Cond).before a s = true := hts _ (List.mem_of_getElem? (i := 1) (by decide +kernel))
theorem iX11_servesBy_X11 : ∀ w ∈ wsX110, w ∈ wsX11_servesBy := by decide +kernel
theorem iX11_serves_X11 : ∀ w ∈ wsX110, w ∈ wsX11_serves := by decide +kernel
theorem iX11_priceFrom_X11 : ∀ w ∈ wsX110, w ∈ wsX11_priceFrom := by decide +kernel
theorem dX11_servesBy_0 : decode cX11_servesBy 0 = .ok (.sipush 312, 3) := by decide +kernel
theorem dX11_servesBy_3 : decode cX11_servesBy 3 = .ok (.iconst 4, 1) := by decide +kernel
theorem dX11_servesBy_4 : decode cX11_servesBy 4 = .ok (.iload_n 3, 1) := by decide +kernel
theorem dX11_servesBy_5 : decode cX11_servesBy 5 = .ok (.imul, 1) := by decide +kernel
theorem dX11_servesBy_6 : decode cX11_servesBy 6 = .ok (.iadd, 1) := by decide +kernel
theorem dX11_servesBy_7 : decode cX11_servesBy 7 = .ok (.istore 4, 2) := by decide +kernel
theorem dX11_servesBy_9 : decode cX11_servesBy 9 = .ok (.aload_n 0, 1) := by decide +kernel
theorem dX11_servesBy_10 : decode cX11_servesBy 10 = .ok (.iload_n 2, 1) := by decide +kernel
theorem dX11_servesBy_11 : decode cX11_servesBy 11 = .ok (.invokevirtual 286, 3) := by decide +kernel
theorem dX11_servesBy_14 : decode cX11_servesBy 14 = .ok (.ifCond .ne 6, 3) := by decide +kernel
theorem dX11_servesBy_20 : decode cX11_servesBy 20 = .ok (.aload_n 0, 1) := by decide +kernel
theorem dX11_servesBy_21 : decode cX11_servesBy 21 = .ok (.iconst (-1), 1) := by decide +kernel
theorem dX11_servesBy_22 : decode cX11_servesBy 22 = .ok (.putfield 413, 3) := by decide +kernel
theorem dX11_servesBy_25 : decode cX11_servesBy 25 = .ok (.aload_n 0, 1) := by decide +kernel
theorem dX11_servesBy_26 : decode cX11_servesBy 26 = .ok (.iload_n 1, 1) := by decide +kernel
theorem dX11_servesBy_27 : decode cX11_servesBy 27 = .ok (.aload_n 0, 1) := by decide +kernel
theorem dX11_servesBy_28 : decode cX11_servesBy 28 = .ok (.iload_n 2, 1) := by decide +kernel
theorem dX11_servesBy_29 : decode cX11_servesBy 29 = .ok (.iconst 5, 1) := by decide +kernel
theorem dX11_servesBy_30 : decode cX11_servesBy 30 = .ok (.invokevirtual 283, 3) := by decide +kernel
theorem dX11_servesBy_33 : decode cX11_servesBy 33 = .ok (.aload_n 0, 1) := by decide +kernel
theorem dX11_servesBy_34 : decode cX11_servesBy 34 = .ok (.getfield 39, 3) := by decide +kernel
theorem dX11_servesBy_37 : decode cX11_servesBy 37 = .ok (.iload 4, 2) := by decide +kernel
theorem dX11_servesBy_39 : decode cX11_servesBy 39 = .ok (.iaload, 1) := by decide +kernel
theorem dX11_servesBy_40 : decode cX11_servesBy 40 = .ok (.aload_n 0, 1) := by decide +kernel
theorem dX11_servesBy_41 : decode cX11_servesBy 41 = .ok (.getfield 39, 3) := by decide +kernel
theorem dX11_servesBy_44 : decode cX11_servesBy 44 = .ok (.iconst 5, 1) := by decide +kernel
theorem dX11_servesBy_45 : decode cX11_servesBy 45 = .ok (.iaload, 1) := by decide +kernel
theorem dX11_servesBy_46 : decode cX11_servesBy 46 = .ok (.aload_n 0, 1) := by decide +kernel
theorem dX11_servesBy_47 : decode cX11_servesBy 47 = .ok (.iload_n 2, 1) := by decide +kernel
theorem dX11_servesBy_48 : decode cX11_servesBy 48 = .ok (.iconst 4, 1) := by decide +kernel
theorem dX11_servesBy_49 : decode cX11_servesBy 49 = .ok (.invokevirtual 283, 3) := by decide +kernel
theorem dX11_servesBy_52 : decode cX11_servesBy 52 = .ok (.aload_n 0, 1) := by decide +kernel
theorem dX11_servesBy_53 : decode cX11_servesBy 53 = .ok (.iload_n 2, 1) := by decide +kernel
theorem dX11_servesBy_54 : decode cX11_servesBy 54 = .ok (.iconst 0, 1) := by decide +kernel
theorem dX11_servesBy_55 : decode cX11_servesBy 55 = .ok (.invokevirtual 283, 3) := by decide +kernel
theorem dX11_servesBy_58 : decode cX11_servesBy 58 = .ok (.aload_n 0, 1) := by decide +kernel
theorem dX11_servesBy_59 : decode cX11_servesBy 59 = .ok (.iload_n 2, 1) := by decide +kernel
theorem dX11_servesBy_60 : decode cX11_servesBy 60 = .ok (.iconst 1, 1) := by decide +kernel
theorem dX11_servesBy_61 : decode cX11_servesBy 61 = .ok (.invokevirtual 283, 3) := by decide +kernel
theorem dX11_servesBy_64 : decode cX11_servesBy 64 = .ok (.iconst (-1), 1) := by decide +kernel
theorem dX11_servesBy_65 : decode cX11_servesBy 65 = .ok (.aload_n 0, 1) := by decide +kernel
theorem dX11_servesBy_66 : decode cX11_servesBy 66 = .ok (.getfield 39, 3) := by decide +kernel
theorem dX11_servesBy_69 : decode cX11_servesBy 69 = .ok (.iload 4, 2) := by decide +kernel
theorem dX11_servesBy_71 : decode cX11_servesBy 71 = .ok (.iconst 1, 1) := by decide +kernel
theorem dX11_servesBy_72 : decode cX11_servesBy 72 = .ok (.iadd, 1) := by decide +kernel
theorem dX11_servesBy_73 : decode cX11_servesBy 73 = .ok (.iaload, 1) := by decide +kernel
theorem dX11_servesBy_74 : decode cX11_servesBy 74 = .ok (.invokevirtual 426, 3) := by decide +kernel
theorem dX11_servesBy_77 : decode cX11_servesBy 77 = .ok (.aload_n 0, 1) := by decide +kernel
theorem dX11_servesBy_78 : decode cX11_servesBy 78 = .ok (.getfield 413, 3) := by decide +kernel
theorem dX11_servesBy_81 : decode cX11_servesBy 81 = .ok (.aload_n 0, 1) := by decide +kernel
theorem dX11_servesBy_82 : decode cX11_servesBy 82 = .ok (.getfield 39, 3) := by decide +kernel
theorem dX11_servesBy_85 : decode cX11_servesBy 85 = .ok (.iload 4, 2) := by decide +kernel
theorem dX11_servesBy_87 : decode cX11_servesBy 87 = .ok (.iconst 2, 1) := by decide +kernel
theorem dX11_servesBy_88 : decode cX11_servesBy 88 = .ok (.iadd, 1) := by decide +kernel
theorem dX11_servesBy_89 : decode cX11_servesBy 89 = .ok (.iaload, 1) := by decide +kernel
theorem dX11_servesBy_90 : decode cX11_servesBy 90 = .ok (.if_icmp .lt 10, 3) := by decide +kernel
theorem dX11_servesBy_100 : decode cX11_servesBy 100 = .ok (.bipush (-2), 2) := by decide +kernel
theorem dX11_servesBy_93 : decode cX11_servesBy 93 = .ok (.aload_n 0, 1) := by decide +kernel
theorem dX11_servesBy_94 : decode cX11_servesBy 94 = .ok (.getfield 413, 3) := by decide +kernel
theorem dX11_servesBy_97 : decode cX11_servesBy 97 = .ok (.goto 5, 3) := by decide +kernel
theorem dX11_servesBy_17 : decode cX11_servesBy 17 = .ok (.bipush (-2), 2) := by decide +kernel
theorem dX11_servesBy_19 : decode cX11_servesBy 19 = .ok (.ireturn, 1) := by decide +kernel
theorem dX11_servesBy_102 : decode cX11_servesBy 102 = .ok (.ireturn, 1) := by decide +kernel
theorem dX11_serves_0 : decode cX11_serves 0 = .ok (.aload_n 0, 1) := by decide +kernel
theorem dX11_serves_1 : decode cX11_serves 1 = .ok (.iload_n 1, 1) := by decide +kernel
theorem dX11_serves_2 : decode cX11_serves 2 = .ok (.invokevirtual 363, 3) := by decide +kernel
theorem dX11_serves_5 : decode cX11_serves 5 = .ok (.ifCond .eq 39, 3) := by decide +kernel
theorem dX11_serves_44 : decode cX11_serves 44 = .ok (.iconst (-1), 1) := by decide +kernel
theorem dX11_serves_45 : decode cX11_serves 45 = .ok (.ireturn, 1) := by decide +kernel
theorem dX11_serves_8 : decode cX11_serves 8 = .ok (.aload_n 0, 1) := by decide +kernel
theorem dX11_serves_9 : decode cX11_serves 9 = .ok (.iload_n 2, 1) := by decide +kernel
theorem dX11_serves_10 : decode cX11_serves 10 = .ok (.invokevirtual 280, 3) := by decide +kernel
theorem dX11_serves_13 : decode cX11_serves 13 = .ok (.ifCond .eq 31, 3) := by decide +kernel
theorem dX11_serves_16 : decode cX11_serves 16 = .ok (.iload_n 3, 1) := by decide +kernel
theorem dX11_serves_17 : decode cX11_serves 17 = .ok (.i2l, 1) := by decide +kernel
theorem dX11_serves_18 : decode cX11_serves 18 = .ok (.lconst 0, 1) := by decide +kernel
theorem dX11_serves_19 : decode cX11_serves 19 = .ok (.aload_n 0, 1) := by decide +kernel
theorem dX11_serves_20 : decode cX11_serves 20 = .ok (.getfield 39, 3) := by decide +kernel
theorem dX11_serves_23 : decode cX11_serves 23 = .ok (.iconst 3, 1) := by decide +kernel
theorem dX11_serves_24 : decode cX11_serves 24 = .ok (.iaload, 1) := by decide +kernel
theorem dX11_serves_25 : decode cX11_serves 25 = .ok (.iconst 1, 1) := by decide +kernel
theorem dX11_serves_26 : decode cX11_serves 26 = .ok (.isub, 1) := by decide +kernel
theorem dX11_serves_27 : decode cX11_serves 27 = .ok (.i2l, 1) := by decide +kernel
theorem dX11_serves_28 : decode cX11_serves 28 = .ok (.invokestatic 118, 3) := by decide +kernel
theorem dX11_serves_31 : decode cX11_serves 31 = .ok (.ifCond .eq 13, 3) := by decide +kernel
theorem dX11_serves_34 : decode cX11_serves 34 = .ok (.aload_n 0, 1) := by decide +kernel
theorem dX11_serves_35 : decode cX11_serves 35 = .ok (.iload_n 1, 1) := by decide +kernel
theorem dX11_serves_36 : decode cX11_serves 36 = .ok (.iload_n 2, 1) := by decide +kernel
theorem dX11_serves_37 : decode cX11_serves 37 = .ok (.iload_n 3, 1) := by decide +kernel
theorem dX11_serves_38 : decode cX11_serves 38 = .ok (.invokevirtual 447, 3) := by decide +kernel
theorem dX11_serves_41 : decode cX11_serves 41 = .ok (.goto 4, 3) := by decide +kernel
theorem dX11_priceFrom_0 : decode cX11_priceFrom 0 = .ok (.iconst 0, 1) := by decide +kernel
theorem dX11_priceFrom_1 : decode cX11_priceFrom 1 = .ok (.istore_n 3, 1) := by decide +kernel
theorem dX11_priceFrom_2 : decode cX11_priceFrom 2 = .ok (.iconst 0, 1) := by decide +kernel
theorem dX11_priceFrom_3 : decode cX11_priceFrom 3 = .ok (.istore 4, 2) := by decide +kernel
theorem dX11_priceFrom_5 : decode cX11_priceFrom 5 = .ok (.iload 4, 2) := by decide +kernel
theorem dX11_priceFrom_7 : decode cX11_priceFrom 7 = .ok (.iconst 1, 1) := by decide +kernel
theorem dX11_priceFrom_8 : decode cX11_priceFrom 8 = .ok (.aload_n 0, 1) := by decide +kernel
theorem dX11_priceFrom_9 : decode cX11_priceFrom 9 = .ok (.getfield 39, 3) := by decide +kernel
theorem dX11_priceFrom_12 : decode cX11_priceFrom 12 = .ok (.iconst 3, 1) := by decide +kernel
theorem dX11_priceFrom_13 : decode cX11_priceFrom 13 = .ok (.iaload, 1) := by decide +kernel
theorem dX11_priceFrom_14 : decode cX11_priceFrom 14 = .ok (.ishl, 1) := by decide +kernel
theorem dX11_priceFrom_15 : decode cX11_priceFrom 15 = .ok (.if_icmp .ge 104, 3) := by decide +kernel
theorem dX11_priceFrom_18 : decode cX11_priceFrom 18 = .ok (.iload 4, 2) := by decide +kernel
theorem dX11_priceFrom_20 : decode cX11_priceFrom 20 = .ok (.iconst 1, 1) := by decide +kernel
theorem dX11_priceFrom_21 : decode cX11_priceFrom 21 = .ok (.iload_n 1, 1) := by decide +kernel
theorem dX11_priceFrom_22 : decode cX11_priceFrom 22 = .ok (.ishl, 1) := by decide +kernel
theorem dX11_priceFrom_23 : decode cX11_priceFrom 23 = .ok (.iconst 1, 1) := by decide +kernel
theorem dX11_priceFrom_24 : decode cX11_priceFrom 24 = .ok (.isub, 1) := by decide +kernel
theorem dX11_priceFrom_25 : decode cX11_priceFrom 25 = .ok (.iand, 1) := by decide +kernel
theorem dX11_priceFrom_26 : decode cX11_priceFrom 26 = .ok (.ifCond .ne 87, 3) := by decide +kernel
theorem dX11_priceFrom_113 : decode cX11_priceFrom 113 = .ok (.iinc 4 1, 3) := by decide +kernel
theorem dX11_priceFrom_116 : decode cX11_priceFrom 116 = .ok (.goto (-111), 3) := by decide +kernel
theorem dX11_priceFrom_29 : decode cX11_priceFrom 29 = .ok (.aload_n 0, 1) := by decide +kernel
theorem dX11_priceFrom_30 : decode cX11_priceFrom 30 = .ok (.iload 4, 2) := by decide +kernel
theorem dX11_priceFrom_32 : decode cX11_priceFrom 32 = .ok (.iload_n 2, 1) := by decide +kernel
theorem dX11_priceFrom_33 : decode cX11_priceFrom 33 = .ok (.invokevirtual 453, 3) := by decide +kernel
theorem dX11_priceFrom_36 : decode cX11_priceFrom 36 = .ok (.ifCond .ne 6, 3) := by decide +kernel
theorem dX11_priceFrom_42 : decode cX11_priceFrom 42 = .ok (.iconst 0, 1) := by decide +kernel
theorem dX11_priceFrom_43 : decode cX11_priceFrom 43 = .ok (.istore 5, 2) := by decide +kernel
theorem dX11_priceFrom_45 : decode cX11_priceFrom 45 = .ok (.iconst 0, 1) := by decide +kernel
theorem dX11_priceFrom_46 : decode cX11_priceFrom 46 = .ok (.istore 6, 2) := by decide +kernel
theorem dX11_priceFrom_48 : decode cX11_priceFrom 48 = .ok (.iload 6, 2) := by decide +kernel
theorem dX11_priceFrom_50 : decode cX11_priceFrom 50 = .ok (.aload_n 0, 1) := by decide +kernel
theorem dX11_priceFrom_51 : decode cX11_priceFrom 51 = .ok (.getfield 39, 3) := by decide +kernel
theorem dX11_priceFrom_54 : decode cX11_priceFrom 54 = .ok (.iconst 3, 1) := by decide +kernel
theorem dX11_priceFrom_55 : decode cX11_priceFrom 55 = .ok (.iaload, 1) := by decide +kernel
theorem dX11_priceFrom_56 : decode cX11_priceFrom 56 = .ok (.if_icmp .ge 44, 3) := by decide +kernel
theorem dX11_priceFrom_59 : decode cX11_priceFrom 59 = .ok (.iload 5, 2) := by decide +kernel
theorem dX11_priceFrom_61 : decode cX11_priceFrom 61 = .ok (.iload 4, 2) := by decide +kernel
theorem dX11_priceFrom_63 : decode cX11_priceFrom 63 = .ok (.iload 6, 2) := by decide +kernel
theorem dX11_priceFrom_65 : decode cX11_priceFrom 65 = .ok (.ishr, 1) := by decide +kernel
theorem dX11_priceFrom_66 : decode cX11_priceFrom 66 = .ok (.iconst 1, 1) := by decide +kernel
theorem dX11_priceFrom_67 : decode cX11_priceFrom 67 = .ok (.iand, 1) := by decide +kernel
theorem dX11_priceFrom_68 : decode cX11_priceFrom 68 = .ok (.iconst 1, 1) := by decide +kernel
theorem dX11_priceFrom_69 : decode cX11_priceFrom 69 = .ok (.if_icmp .ne 21, 3) := by decide +kernel
theorem dX11_priceFrom_90 : decode cX11_priceFrom 90 = .ok (.iconst 0, 1) := by decide +kernel
theorem dX11_priceFrom_91 : decode cX11_priceFrom 91 = .ok (.iadd, 1) := by decide +kernel
theorem dX11_priceFrom_92 : decode cX11_priceFrom 92 = .ok (.istore 5, 2) := by decide +kernel
theorem dX11_priceFrom_94 : decode cX11_priceFrom 94 = .ok (.iinc 6 1, 3) := by decide +kernel
theorem dX11_priceFrom_97 : decode cX11_priceFrom 97 = .ok (.goto (-49), 3) := by decide +kernel
theorem dX11_priceFrom_100 : decode cX11_priceFrom 100 = .ok (.iload 5, 2) := by decide +kernel
theorem dX11_priceFrom_102 : decode cX11_priceFrom 102 = .ok (.iload_n 3, 1) := by decide +kernel
theorem dX11_priceFrom_103 : decode cX11_priceFrom 103 = .ok (.if_icmp .le 8, 3) := by decide +kernel
theorem dX11_priceFrom_111 : decode cX11_priceFrom 111 = .ok (.iload_n 3, 1) := by decide +kernel
theorem dX11_priceFrom_112 : decode cX11_priceFrom 112 = .ok (.istore_n 3, 1) := by decide +kernel
theorem dX11_priceFrom_39 : decode cX11_priceFrom 39 = .ok (.goto 74, 3) := by decide +kernel
theorem dX11_priceFrom_119 : decode cX11_priceFrom 119 = .ok (.iload_n 3, 1) := by decide +kernel
theorem dX11_priceFrom_120 : decode cX11_priceFrom 120 = .ok (.ireturn, 1) := by decide +kernel
theorem dX11_priceFrom_72 : decode cX11_priceFrom 72 = .ok (.aload_n 0, 1) := by decide +kernel
theorem dX11_priceFrom_73 : decode cX11_priceFrom 73 = .ok (.getfield 39, 3) := by decide +kernel
theorem dX11_priceFrom_76 : decode cX11_priceFrom 76 = .ok (.sipush 312, 3) := by decide +kernel
theorem dX11_priceFrom_79 : decode cX11_priceFrom 79 = .ok (.iconst 4, 1) := by decide +kernel
theorem dX11_priceFrom_80 : decode cX11_priceFrom 80 = .ok (.iload 6, 2) := by decide +kernel
theorem dX11_priceFrom_82 : decode cX11_priceFrom 82 = .ok (.imul, 1) := by decide +kernel
theorem dX11_priceFrom_83 : decode cX11_priceFrom 83 = .ok (.iadd, 1) := by decide +kernel
theorem dX11_priceFrom_84 : decode cX11_priceFrom 84 = .ok (.iconst 3, 1) := by decide +kernel
theorem dX11_priceFrom_85 : decode cX11_priceFrom 85 = .ok (.iadd, 1) := by decide +kernel
theorem dX11_priceFrom_86 : decode cX11_priceFrom 86 = .ok (.iaload, 1) := by decide +kernel
theorem dX11_priceFrom_87 : decode cX11_priceFrom 87 = .ok (.goto 4, 3) := by decide +kernel
theorem dX11_priceFrom_106 : decode cX11_priceFrom 106 = .ok (.iload 5, 2) := by decide +kernel
theorem dX11_priceFrom_108 : decode cX11_priceFrom 108 = .ok (.goto 4, 3) := by decide +kernel

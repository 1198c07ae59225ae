theorem kX11_waitsOtherwise_1 {a : Array Value} {s : State} (hts : ∀ w ∈ wsX11_waitsOtherwise, w.before a s = true) : (.fieldLink RX11 39 "SnowMulesModel" "said" "[I" : Cond).before a s = true := hts _ (List.mem_of_getElem? (i := 1) (by decide +kernel))
theorem kX11_waitsOtherwise_2 {a : Array Value} {s : State} (hts : ∀ w ∈ wsX11_waitsOtherwise, w.before a s = true) : (.fieldLink RX11 66 "SnowMulesModel" "waited" "[I" : Cond).before a s = true := hts _ (List.mem_of_getElem? (i := 2) (by decide +kernel))
theorem iX11_waitsOtherwise_X11 : ∀ w ∈ wsX110, w ∈ wsX11_waitsOtherwise := by decide +kernel
theorem dX11_waitsOtherwise_0 : decode cX11_waitsOtherwise 0 = .ok (.aload_n 0, 1) := by decide +kernel
theorem dX11_waitsOtherwise_1 : decode cX11_waitsOtherwise 1 = .ok (.getfield 39, 3) := by decide +kernel
theorem dX11_waitsOtherwise_4 : decode cX11_waitsOtherwise 4 = .ok (.bipush 9, 2) := by decide +kernel
theorem dX11_waitsOtherwise_6 : decode cX11_waitsOtherwise 6 = .ok (.iaload, 1) := by decide +kernel
theorem dX11_waitsOtherwise_7 : decode cX11_waitsOtherwise 7 = .ok (.iconst 1, 1) := by decide +kernel
theorem dX11_waitsOtherwise_8 : decode cX11_waitsOtherwise 8 = .ok (.isub, 1) := by decide +kernel
theorem dX11_waitsOtherwise_9 : decode cX11_waitsOtherwise 9 = .ok (.istore_n 1, 1) := by decide +kernel
theorem dX11_waitsOtherwise_10 : decode cX11_waitsOtherwise 10 = .ok (.aload_n 0, 1) := by decide +kernel
theorem dX11_waitsOtherwise_11 : decode cX11_waitsOtherwise 11 = .ok (.getfield 66, 3) := by decide +kernel
theorem dX11_waitsOtherwise_14 : decode cX11_waitsOtherwise 14 = .ok (.iload_n 1, 1) := by decide +kernel
theorem dX11_waitsOtherwise_15 : decode cX11_waitsOtherwise 15 = .ok (.iaload, 1) := by decide +kernel
theorem dX11_waitsOtherwise_16 : decode cX11_waitsOtherwise 16 = .ok (.istore_n 2, 1) := by decide +kernel
theorem dX11_waitsOtherwise_17 : decode cX11_waitsOtherwise 17 = .ok (.iload_n 1, 1) := by decide +kernel
theorem dX11_waitsOtherwise_18 : decode cX11_waitsOtherwise 18 = .ok (.iconst 1, 1) := by decide +kernel
theorem dX11_waitsOtherwise_19 : decode cX11_waitsOtherwise 19 = .ok (.isub, 1) := by decide +kernel
theorem dX11_waitsOtherwise_20 : decode cX11_waitsOtherwise 20 = .ok (.istore_n 3, 1) := by decide +kernel
theorem dX11_waitsOtherwise_21 : decode cX11_waitsOtherwise 21 = .ok (.iload_n 3, 1) := by decide +kernel
theorem dX11_waitsOtherwise_22 : decode cX11_waitsOtherwise 22 = .ok (.ifCond .lt 68, 3) := by decide +kernel
theorem dX11_waitsOtherwise_25 : decode cX11_waitsOtherwise 25 = .ok (.iload_n 2, 1) := by decide +kernel
theorem dX11_waitsOtherwise_26 : decode cX11_waitsOtherwise 26 = .ok (.ifCond .le 49, 3) := by decide +kernel
theorem dX11_waitsOtherwise_75 : decode cX11_waitsOtherwise 75 = .ok (.iload_n 2, 1) := by decide +kernel
theorem dX11_waitsOtherwise_76 : decode cX11_waitsOtherwise 76 = .ok (.aload_n 0, 1) := by decide +kernel
theorem dX11_waitsOtherwise_77 : decode cX11_waitsOtherwise 77 = .ok (.getfield 66, 3) := by decide +kernel
theorem dX11_waitsOtherwise_80 : decode cX11_waitsOtherwise 80 = .ok (.iload_n 3, 1) := by decide +kernel
theorem dX11_waitsOtherwise_81 : decode cX11_waitsOtherwise 81 = .ok (.iaload, 1) := by decide +kernel
theorem dX11_waitsOtherwise_82 : decode cX11_waitsOtherwise 82 = .ok (.iadd, 1) := by decide +kernel
theorem dX11_waitsOtherwise_83 : decode cX11_waitsOtherwise 83 = .ok (.istore_n 2, 1) := by decide +kernel
theorem dX11_waitsOtherwise_84 : decode cX11_waitsOtherwise 84 = .ok (.iinc 3 (-1), 3) := by decide +kernel
theorem dX11_waitsOtherwise_87 : decode cX11_waitsOtherwise 87 = .ok (.goto (-66), 3) := by decide +kernel
theorem dX11_waitsOtherwise_29 : decode cX11_waitsOtherwise 29 = .ok (.aload_n 0, 1) := by decide +kernel
theorem dX11_waitsOtherwise_30 : decode cX11_waitsOtherwise 30 = .ok (.getfield 66, 3) := by decide +kernel
theorem dX11_waitsOtherwise_33 : decode cX11_waitsOtherwise 33 = .ok (.iload_n 3, 1) := by decide +kernel
theorem dX11_waitsOtherwise_34 : decode cX11_waitsOtherwise 34 = .ok (.dup2, 1) := by decide +kernel
theorem dX11_waitsOtherwise_35 : decode cX11_waitsOtherwise 35 = .ok (.iaload, 1) := by decide +kernel
theorem dX11_waitsOtherwise_36 : decode cX11_waitsOtherwise 36 = .ok (.iconst 1, 1) := by decide +kernel
theorem dX11_waitsOtherwise_37 : decode cX11_waitsOtherwise 37 = .ok (.iadd, 1) := by decide +kernel
theorem dX11_waitsOtherwise_38 : decode cX11_waitsOtherwise 38 = .ok (.iastore, 1) := by decide +kernel
theorem dX11_waitsOtherwise_39 : decode cX11_waitsOtherwise 39 = .ok (.iload_n 3, 1) := by decide +kernel
theorem dX11_waitsOtherwise_40 : decode cX11_waitsOtherwise 40 = .ok (.iconst 1, 1) := by decide +kernel
theorem dX11_waitsOtherwise_41 : decode cX11_waitsOtherwise 41 = .ok (.iadd, 1) := by decide +kernel
theorem dX11_waitsOtherwise_42 : decode cX11_waitsOtherwise 42 = .ok (.istore 4, 2) := by decide +kernel
theorem dX11_waitsOtherwise_44 : decode cX11_waitsOtherwise 44 = .ok (.iload 4, 2) := by decide +kernel
theorem dX11_waitsOtherwise_46 : decode cX11_waitsOtherwise 46 = .ok (.iload_n 1, 1) := by decide +kernel
theorem dX11_waitsOtherwise_47 : decode cX11_waitsOtherwise 47 = .ok (.if_icmp .ge 17, 3) := by decide +kernel
theorem dX11_waitsOtherwise_50 : decode cX11_waitsOtherwise 50 = .ok (.aload_n 0, 1) := by decide +kernel
theorem dX11_waitsOtherwise_51 : decode cX11_waitsOtherwise 51 = .ok (.getfield 66, 3) := by decide +kernel
theorem dX11_waitsOtherwise_54 : decode cX11_waitsOtherwise 54 = .ok (.iload 4, 2) := by decide +kernel
theorem dX11_waitsOtherwise_56 : decode cX11_waitsOtherwise 56 = .ok (.iconst 0, 1) := by decide +kernel
theorem dX11_waitsOtherwise_57 : decode cX11_waitsOtherwise 57 = .ok (.iastore, 1) := by decide +kernel
theorem dX11_waitsOtherwise_58 : decode cX11_waitsOtherwise 58 = .ok (.iinc 4 1, 3) := by decide +kernel
theorem dX11_waitsOtherwise_61 : decode cX11_waitsOtherwise 61 = .ok (.goto (-17), 3) := by decide +kernel
theorem dX11_waitsOtherwise_64 : decode cX11_waitsOtherwise 64 = .ok (.aload_n 0, 1) := by decide +kernel
theorem dX11_waitsOtherwise_65 : decode cX11_waitsOtherwise 65 = .ok (.getfield 66, 3) := by decide +kernel
theorem dX11_waitsOtherwise_68 : decode cX11_waitsOtherwise 68 = .ok (.iload_n 1, 1) := by decide +kernel
theorem dX11_waitsOtherwise_69 : decode cX11_waitsOtherwise 69 = .ok (.iload_n 2, 1) := by decide +kernel
theorem dX11_waitsOtherwise_70 : decode cX11_waitsOtherwise 70 = .ok (.iconst 1, 1) := by decide +kernel
theorem dX11_waitsOtherwise_71 : decode cX11_waitsOtherwise 71 = .ok (.isub, 1) := by decide +kernel
theorem dX11_waitsOtherwise_72 : decode cX11_waitsOtherwise 72 = .ok (.iastore, 1) := by decide +kernel
theorem dX11_waitsOtherwise_73 : decode cX11_waitsOtherwise 73 = .ok (.iconst 1, 1) := by decide +kernel
theorem dX11_waitsOtherwise_90 : decode cX11_waitsOtherwise 90 = .ok (.iconst 0, 1) := by decide +kernel
theorem dX11_waitsOtherwise_91 : decode cX11_waitsOtherwise 91 = .ok (.ireturn, 1) := by decide +kernel
theorem dX11_waitsOtherwise_74 : decode cX11_waitsOtherwise 74 = .ok (.ireturn, 1) := by decide +kernel

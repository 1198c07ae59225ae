theorem kX11_settles_1 {a : Array Value} {s : State} (hts : ∀ w ∈ wsX11_settles, w.before a s = true) : (.fieldLink RX11 153 "SnowMulesModel" "opened" "I" : Cond).before a s = true := hts _ (List.mem_of_getElem? (i := 1) (by decide +kernel))
theorem kX11_settles_2 {a : Array Value} {s : State} (hts : ∀ w ∈ wsX11_settles, w.before a s = true) : (.fieldLink RX11 29 "SnowMulesModel" "open" "[I" : Cond).before a s = true := hts _ (List.mem_of_getElem? (i := 2) (by decide +kernel))
theorem kX11_settles_3 {a : Array Value} {s : State} (hts : ∀ w ∈ wsX11_settles, w.before a s = true) : (.fieldLink RX11 150 "SnowMulesModel" "deep" "I" : Cond).before a s = true := hts _ (List.mem_of_getElem? (i := 3) (by decide +kernel))
theorem iX11_settles_X11 : ∀ w ∈ wsX110, w ∈ wsX11_settles := by decide +kernel
theorem dX11_settles_0 : decode cX11_settles 0 = .ok (.aload_n 0, 1) := by decide +kernel
theorem dX11_settles_1 : decode cX11_settles 1 = .ok (.getfield 153, 3) := by decide +kernel
theorem dX11_settles_4 : decode cX11_settles 4 = .ok (.ifCond .le 72, 3) := by decide +kernel
theorem dX11_settles_7 : decode cX11_settles 7 = .ok (.aload_n 0, 1) := by decide +kernel
theorem dX11_settles_8 : decode cX11_settles 8 = .ok (.getfield 29, 3) := by decide +kernel
theorem dX11_settles_11 : decode cX11_settles 11 = .ok (.aload_n 0, 1) := by decide +kernel
theorem dX11_settles_12 : decode cX11_settles 12 = .ok (.getfield 153, 3) := by decide +kernel
theorem dX11_settles_15 : decode cX11_settles 15 = .ok (.iconst 1, 1) := by decide +kernel
theorem dX11_settles_16 : decode cX11_settles 16 = .ok (.isub, 1) := by decide +kernel
theorem dX11_settles_17 : decode cX11_settles 17 = .ok (.iaload, 1) := by decide +kernel
theorem dX11_settles_18 : decode cX11_settles 18 = .ok (.invokestatic 156, 3) := by decide +kernel
theorem dX11_settles_21 : decode cX11_settles 21 = .ok (.iload_n 1, 1) := by decide +kernel
theorem dX11_settles_22 : decode cX11_settles 22 = .ok (.if_icmp .lt 54, 3) := by decide +kernel
theorem dX11_settles_25 : decode cX11_settles 25 = .ok (.aload_n 0, 1) := by decide +kernel
theorem dX11_settles_26 : decode cX11_settles 26 = .ok (.dup, 1) := by decide +kernel
theorem dX11_settles_27 : decode cX11_settles 27 = .ok (.getfield 153, 3) := by decide +kernel
theorem dX11_settles_30 : decode cX11_settles 30 = .ok (.iconst 1, 1) := by decide +kernel
theorem dX11_settles_31 : decode cX11_settles 31 = .ok (.isub, 1) := by decide +kernel
theorem dX11_settles_32 : decode cX11_settles 32 = .ok (.putfield 153, 3) := by decide +kernel
theorem dX11_settles_35 : decode cX11_settles 35 = .ok (.aload_n 0, 1) := by decide +kernel
theorem dX11_settles_36 : decode cX11_settles 36 = .ok (.aload_n 0, 1) := by decide +kernel
theorem dX11_settles_37 : decode cX11_settles 37 = .ok (.getfield 29, 3) := by decide +kernel
theorem dX11_settles_40 : decode cX11_settles 40 = .ok (.aload_n 0, 1) := by decide +kernel
theorem dX11_settles_41 : decode cX11_settles 41 = .ok (.getfield 153, 3) := by decide +kernel
theorem dX11_settles_44 : decode cX11_settles 44 = .ok (.iaload, 1) := by decide +kernel
theorem dX11_settles_45 : decode cX11_settles 45 = .ok (.iconst 0, 1) := by decide +kernel
theorem dX11_settles_46 : decode cX11_settles 46 = .ok (.invokevirtual 160, 3) := by decide +kernel
theorem dX11_settles_49 : decode cX11_settles 49 = .ok (.aload_n 0, 1) := by decide +kernel
theorem dX11_settles_50 : decode cX11_settles 50 = .ok (.getfield 29, 3) := by decide +kernel
theorem dX11_settles_53 : decode cX11_settles 53 = .ok (.aload_n 0, 1) := by decide +kernel
theorem dX11_settles_54 : decode cX11_settles 54 = .ok (.getfield 153, 3) := by decide +kernel
theorem dX11_settles_57 : decode cX11_settles 57 = .ok (.iaload, 1) := by decide +kernel
theorem dX11_settles_58 : decode cX11_settles 58 = .ok (.bipush 11, 2) := by decide +kernel
theorem dX11_settles_60 : decode cX11_settles 60 = .ok (.if_icmp .ne (-60), 3) := by decide +kernel
theorem dX11_settles_63 : decode cX11_settles 63 = .ok (.aload_n 0, 1) := by decide +kernel
theorem dX11_settles_64 : decode cX11_settles 64 = .ok (.dup, 1) := by decide +kernel
theorem dX11_settles_65 : decode cX11_settles 65 = .ok (.getfield 150, 3) := by decide +kernel
theorem dX11_settles_68 : decode cX11_settles 68 = .ok (.iconst 1, 1) := by decide +kernel
theorem dX11_settles_69 : decode cX11_settles 69 = .ok (.isub, 1) := by decide +kernel
theorem dX11_settles_70 : decode cX11_settles 70 = .ok (.putfield 150, 3) := by decide +kernel
theorem dX11_settles_73 : decode cX11_settles 73 = .ok (.goto (-73), 3) := by decide +kernel
theorem dX11_settles_76 : decode cX11_settles 76 = .ok (.return_, 1) := by decide +kernel

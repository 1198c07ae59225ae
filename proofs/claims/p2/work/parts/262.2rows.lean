theorem kX11_closes_1 {a : Array Value} {s : State} (hts : ∀ w ∈ wsX11_closes, w.before a s = true) : (.fieldLink RX11 153 "SnowMulesModel" "opened" "I" : Cond).before a s = true := hts _ (List.mem_of_getElem? (i := 1) (by decide +kernel))
theorem kX11_closes_2 {a : Array Value} {s : State} (hts : ∀ w ∈ wsX11_closes, w.before a s = true) : (.fieldLink RX11 150 "SnowMulesModel" "deep" "I" : Cond).before a s = true := hts _ (List.mem_of_getElem? (i := 2) (by decide +kernel))
theorem kX11_closes_3 {a : Array Value} {s : State} (hts : ∀ w ∈ wsX11_closes, w.before a s = true) : (.fieldLink RX11 90 "SnowMulesModel" "next" "I" : Cond).before a s = true := hts _ (List.mem_of_getElem? (i := 3) (by decide +kernel))
theorem iX11_closes_X11 : ∀ w ∈ wsX110, w ∈ wsX11_closes := by decide +kernel
theorem dX11_closes_0 : decode cX11_closes 0 = .ok (.aload_n 0, 1) := by decide +kernel
theorem dX11_closes_1 : decode cX11_closes 1 = .ok (.iconst 3, 1) := by decide +kernel
theorem dX11_closes_2 : decode cX11_closes 2 = .ok (.invokevirtual 192, 3) := by decide +kernel
theorem dX11_closes_5 : decode cX11_closes 5 = .ok (.aload_n 0, 1) := by decide +kernel
theorem dX11_closes_6 : decode cX11_closes 6 = .ok (.invokevirtual 93, 3) := by decide +kernel
theorem dX11_closes_9 : decode cX11_closes 9 = .ok (.bipush 93, 2) := by decide +kernel
theorem dX11_closes_11 : decode cX11_closes 11 = .ok (.if_icmp .ne 53, 3) := by decide +kernel
theorem dX11_closes_14 : decode cX11_closes 14 = .ok (.aload_n 0, 1) := by decide +kernel
theorem dX11_closes_15 : decode cX11_closes 15 = .ok (.invokevirtual 195, 3) := by decide +kernel
theorem dX11_closes_18 : decode cX11_closes 18 = .ok (.ifCond .eq 46, 3) := by decide +kernel
theorem dX11_closes_21 : decode cX11_closes 21 = .ok (.aload_n 0, 1) := by decide +kernel
theorem dX11_closes_22 : decode cX11_closes 22 = .ok (.iconst 1, 1) := by decide +kernel
theorem dX11_closes_23 : decode cX11_closes 23 = .ok (.invokevirtual 192, 3) := by decide +kernel
theorem dX11_closes_26 : decode cX11_closes 26 = .ok (.aload_n 0, 1) := by decide +kernel
theorem dX11_closes_27 : decode cX11_closes 27 = .ok (.dup, 1) := by decide +kernel
theorem dX11_closes_28 : decode cX11_closes 28 = .ok (.getfield 153, 3) := by decide +kernel
theorem dX11_closes_31 : decode cX11_closes 31 = .ok (.iconst 1, 1) := by decide +kernel
theorem dX11_closes_32 : decode cX11_closes 32 = .ok (.isub, 1) := by decide +kernel
theorem dX11_closes_33 : decode cX11_closes 33 = .ok (.putfield 153, 3) := by decide +kernel
theorem dX11_closes_36 : decode cX11_closes 36 = .ok (.aload_n 0, 1) := by decide +kernel
theorem dX11_closes_37 : decode cX11_closes 37 = .ok (.dup, 1) := by decide +kernel
theorem dX11_closes_38 : decode cX11_closes 38 = .ok (.getfield 150, 3) := by decide +kernel
theorem dX11_closes_41 : decode cX11_closes 41 = .ok (.iconst 1, 1) := by decide +kernel
theorem dX11_closes_42 : decode cX11_closes 42 = .ok (.isub, 1) := by decide +kernel
theorem dX11_closes_43 : decode cX11_closes 43 = .ok (.putfield 150, 3) := by decide +kernel
theorem dX11_closes_46 : decode cX11_closes 46 = .ok (.aload_n 0, 1) := by decide +kernel
theorem dX11_closes_47 : decode cX11_closes 47 = .ok (.dup, 1) := by decide +kernel
theorem dX11_closes_48 : decode cX11_closes 48 = .ok (.getfield 90, 3) := by decide +kernel
theorem dX11_closes_51 : decode cX11_closes 51 = .ok (.iconst 1, 1) := by decide +kernel
theorem dX11_closes_52 : decode cX11_closes 52 = .ok (.iadd, 1) := by decide +kernel
theorem dX11_closes_53 : decode cX11_closes 53 = .ok (.putfield 90, 3) := by decide +kernel
theorem dX11_closes_56 : decode cX11_closes 56 = .ok (.aload_n 0, 1) := by decide +kernel
theorem dX11_closes_57 : decode cX11_closes 57 = .ok (.iconst 3, 1) := by decide +kernel
theorem dX11_closes_58 : decode cX11_closes 58 = .ok (.invokevirtual 192, 3) := by decide +kernel
theorem dX11_closes_61 : decode cX11_closes 61 = .ok (.goto (-56), 3) := by decide +kernel
theorem dX11_closes_64 : decode cX11_closes 64 = .ok (.return_, 1) := by decide +kernel

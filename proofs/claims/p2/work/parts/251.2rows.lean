theorem kX11_term_1 {a : Array Value} {s : State} (hts : ∀ w ∈ wsX11_term, w.before a s = true) : (.fieldLink RX11 7 "SnowMulesModel" "tape" "[B" : Cond).before a s = true := hts _ (List.mem_of_getElem? (i := 1) (by decide +kernel))
theorem kX11_term_2 {a : Array Value} {s : State} (hts : ∀ w ∈ wsX11_term, w.before a s = true) : (.fieldLink RX11 90 "SnowMulesModel" "next" "I" : Cond).before a s = true := hts _ (List.mem_of_getElem? (i := 2) (by decide +kernel))
theorem iX11_term_X11 : ∀ w ∈ wsX110, w ∈ wsX11_term := by decide +kernel
theorem dX11_term_0 : decode cX11_term 0 = .ok (.aload_n 0, 1) := by decide +kernel
theorem dX11_term_1 : decode cX11_term 1 = .ok (.invokevirtual 174, 3) := by decide +kernel
theorem dX11_term_4 : decode cX11_term 4 = .ok (.ifCond .ne 5, 3) := by decide +kernel
theorem dX11_term_9 : decode cX11_term 9 = .ok (.aload_n 0, 1) := by decide +kernel
theorem dX11_term_10 : decode cX11_term 10 = .ok (.invokevirtual 93, 3) := by decide +kernel
theorem dX11_term_13 : decode cX11_term 13 = .ok (.bipush 42, 2) := by decide +kernel
theorem dX11_term_15 : decode cX11_term 15 = .ok (.if_icmp .eq 12, 3) := by decide +kernel
theorem dX11_term_27 : decode cX11_term 27 = .ok (.aload_n 0, 1) := by decide +kernel
theorem dX11_term_28 : decode cX11_term 28 = .ok (.getfield 7, 3) := by decide +kernel
theorem dX11_term_31 : decode cX11_term 31 = .ok (.aload_n 0, 1) := by decide +kernel
theorem dX11_term_32 : decode cX11_term 32 = .ok (.getfield 90, 3) := by decide +kernel
theorem dX11_term_35 : decode cX11_term 35 = .ok (.baload, 1) := by decide +kernel
theorem dX11_term_36 : decode cX11_term 36 = .ok (.bipush 42, 2) := by decide +kernel
theorem dX11_term_38 : decode cX11_term 38 = .ok (.if_icmp .ne 7, 3) := by decide +kernel
theorem dX11_term_45 : decode cX11_term 45 = .ok (.iconst 5, 1) := by decide +kernel
theorem dX11_term_46 : decode cX11_term 46 = .ok (.istore_n 1, 1) := by decide +kernel
theorem dX11_term_47 : decode cX11_term 47 = .ok (.aload_n 0, 1) := by decide +kernel
theorem dX11_term_48 : decode cX11_term 48 = .ok (.dup, 1) := by decide +kernel
theorem dX11_term_49 : decode cX11_term 49 = .ok (.getfield 90, 3) := by decide +kernel
theorem dX11_term_52 : decode cX11_term 52 = .ok (.iconst 1, 1) := by decide +kernel
theorem dX11_term_53 : decode cX11_term 53 = .ok (.iadd, 1) := by decide +kernel
theorem dX11_term_54 : decode cX11_term 54 = .ok (.putfield 90, 3) := by decide +kernel
theorem dX11_term_57 : decode cX11_term 57 = .ok (.aload_n 0, 1) := by decide +kernel
theorem dX11_term_58 : decode cX11_term 58 = .ok (.invokevirtual 174, 3) := by decide +kernel
theorem dX11_term_61 : decode cX11_term 61 = .ok (.ifCond .ne 5, 3) := by decide +kernel
theorem dX11_term_66 : decode cX11_term 66 = .ok (.aload_n 0, 1) := by decide +kernel
theorem dX11_term_67 : decode cX11_term 67 = .ok (.iload_n 1, 1) := by decide +kernel
theorem dX11_term_68 : decode cX11_term 68 = .ok (.iconst 0, 1) := by decide +kernel
theorem dX11_term_69 : decode cX11_term 69 = .ok (.invokevirtual 160, 3) := by decide +kernel
theorem dX11_term_72 : decode cX11_term 72 = .ok (.goto (-63), 3) := by decide +kernel
theorem dX11_term_41 : decode cX11_term 41 = .ok (.iconst 4, 1) := by decide +kernel
theorem dX11_term_42 : decode cX11_term 42 = .ok (.goto 4, 3) := by decide +kernel
theorem dX11_term_18 : decode cX11_term 18 = .ok (.aload_n 0, 1) := by decide +kernel
theorem dX11_term_19 : decode cX11_term 19 = .ok (.invokevirtual 93, 3) := by decide +kernel
theorem dX11_term_22 : decode cX11_term 22 = .ok (.bipush 47, 2) := by decide +kernel
theorem dX11_term_24 : decode cX11_term 24 = .ok (.if_icmp .ne 51, 3) := by decide +kernel
theorem dX11_term_64 : decode cX11_term 64 = .ok (.iconst 0, 1) := by decide +kernel
theorem dX11_term_75 : decode cX11_term 75 = .ok (.iconst 1, 1) := by decide +kernel
theorem dX11_term_7 : decode cX11_term 7 = .ok (.iconst 0, 1) := by decide +kernel
theorem dX11_term_65 : decode cX11_term 65 = .ok (.ireturn, 1) := by decide +kernel
theorem dX11_term_76 : decode cX11_term 76 = .ok (.ireturn, 1) := by decide +kernel
theorem dX11_term_8 : decode cX11_term 8 = .ok (.ireturn, 1) := by decide +kernel

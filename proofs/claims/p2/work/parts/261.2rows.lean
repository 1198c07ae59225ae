theorem kX11_fact_1 {a : Array Value} {s : State} (hts : ∀ w ∈ wsX11_fact, w.before a s = true) : (.constantLong RX11 184 (7237492) : Cond).before a s = true := hts _ (List.mem_of_getElem? (i := 1) (by decide +kernel))
theorem kX11_fact_2 {a : Array Value} {s : State} (hts : ∀ w ∈ wsX11_fact, w.before a s = true) : (.fieldLink RX11 90 "SnowMulesModel" "next" "I" : Cond).before a s = true := hts _ (List.mem_of_getElem? (i := 2) (by decide +kernel))
theorem iX11_fact_X11 : ∀ w ∈ wsX110, w ∈ wsX11_fact := by decide +kernel
theorem dX11_fact_0 : decode cX11_fact 0 = .ok (.iconst 1, 1) := by decide +kernel
theorem dX11_fact_1 : decode cX11_fact 1 = .ok (.istore_n 1, 1) := by decide +kernel
theorem dX11_fact_2 : decode cX11_fact 2 = .ok (.iload_n 1, 1) := by decide +kernel
theorem dX11_fact_3 : decode cX11_fact 3 = .ok (.ifCond .eq 72, 3) := by decide +kernel
theorem dX11_fact_6 : decode cX11_fact 6 = .ok (.iconst 0, 1) := by decide +kernel
theorem dX11_fact_7 : decode cX11_fact 7 = .ok (.istore_n 1, 1) := by decide +kernel
theorem dX11_fact_8 : decode cX11_fact 8 = .ok (.aload_n 0, 1) := by decide +kernel
theorem dX11_fact_9 : decode cX11_fact 9 = .ok (.invokevirtual 93, 3) := by decide +kernel
theorem dX11_fact_12 : decode cX11_fact 12 = .ok (.istore_n 2, 1) := by decide +kernel
theorem dX11_fact_13 : decode cX11_fact 13 = .ok (.aload_n 0, 1) := by decide +kernel
theorem dX11_fact_14 : decode cX11_fact 14 = .ok (.ldc2_w 184, 3) := by decide +kernel
theorem dX11_fact_17 : decode cX11_fact 17 = .ok (.invokevirtual 101, 3) := by decide +kernel
theorem dX11_fact_20 : decode cX11_fact 20 = .ok (.ifCond .eq 23, 3) := by decide +kernel
theorem dX11_fact_43 : decode cX11_fact 43 = .ok (.iload_n 2, 1) := by decide +kernel
theorem dX11_fact_44 : decode cX11_fact 44 = .ok (.bipush 91, 2) := by decide +kernel
theorem dX11_fact_46 : decode cX11_fact 46 = .ok (.if_icmp .ne 26, 3) := by decide +kernel
theorem dX11_fact_72 : decode cX11_fact 72 = .ok (.goto (-70), 3) := by decide +kernel
theorem dX11_fact_49 : decode cX11_fact 49 = .ok (.aload_n 0, 1) := by decide +kernel
theorem dX11_fact_50 : decode cX11_fact 50 = .ok (.bipush 91, 2) := by decide +kernel
theorem dX11_fact_52 : decode cX11_fact 52 = .ok (.invokevirtual 186, 3) := by decide +kernel
theorem dX11_fact_55 : decode cX11_fact 55 = .ok (.ifCond .ne 5, 3) := by decide +kernel
theorem dX11_fact_60 : decode cX11_fact 60 = .ok (.aload_n 0, 1) := by decide +kernel
theorem dX11_fact_61 : decode cX11_fact 61 = .ok (.dup, 1) := by decide +kernel
theorem dX11_fact_62 : decode cX11_fact 62 = .ok (.getfield 90, 3) := by decide +kernel
theorem dX11_fact_65 : decode cX11_fact 65 = .ok (.iconst 1, 1) := by decide +kernel
theorem dX11_fact_66 : decode cX11_fact 66 = .ok (.iadd, 1) := by decide +kernel
theorem dX11_fact_67 : decode cX11_fact 67 = .ok (.putfield 90, 3) := by decide +kernel
theorem dX11_fact_70 : decode cX11_fact 70 = .ok (.iconst 1, 1) := by decide +kernel
theorem dX11_fact_71 : decode cX11_fact 71 = .ok (.istore_n 1, 1) := by decide +kernel
theorem dX11_fact_23 : decode cX11_fact 23 = .ok (.aload_n 0, 1) := by decide +kernel
theorem dX11_fact_24 : decode cX11_fact 24 = .ok (.bipush 11, 2) := by decide +kernel
theorem dX11_fact_26 : decode cX11_fact 26 = .ok (.invokevirtual 186, 3) := by decide +kernel
theorem dX11_fact_29 : decode cX11_fact 29 = .ok (.ifCond .ne 5, 3) := by decide +kernel
theorem dX11_fact_34 : decode cX11_fact 34 = .ok (.aload_n 0, 1) := by decide +kernel
theorem dX11_fact_35 : decode cX11_fact 35 = .ok (.invokevirtual 105, 3) := by decide +kernel
theorem dX11_fact_38 : decode cX11_fact 38 = .ok (.iconst 1, 1) := by decide +kernel
theorem dX11_fact_39 : decode cX11_fact 39 = .ok (.istore_n 1, 1) := by decide +kernel
theorem dX11_fact_40 : decode cX11_fact 40 = .ok (.goto 32, 3) := by decide +kernel
theorem dX11_fact_32 : decode cX11_fact 32 = .ok (.iconst 0, 1) := by decide +kernel
theorem dX11_fact_58 : decode cX11_fact 58 = .ok (.iconst 0, 1) := by decide +kernel
theorem dX11_fact_33 : decode cX11_fact 33 = .ok (.ireturn, 1) := by decide +kernel
theorem dX11_fact_59 : decode cX11_fact 59 = .ok (.ireturn, 1) := by decide +kernel
theorem dX11_fact_75 : decode cX11_fact 75 = .ok (.aload_n 0, 1) := by decide +kernel
theorem dX11_fact_76 : decode cX11_fact 76 = .ok (.invokevirtual 189, 3) := by decide +kernel
theorem dX11_fact_79 : decode cX11_fact 79 = .ok (.ireturn, 1) := by decide +kernel

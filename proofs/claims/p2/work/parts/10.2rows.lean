theorem kX11_isNode_1 {a : Array Value} {s : State} (hts : ∀ w ∈ wsX11_isNode, w.before a s = true) : (.fieldLink RX11 39 "SnowMulesModel" "said" "[I" : Cond).before a s = true := hts _ (List.mem_of_getElem? (i := 1) (by decide +kernel))
theorem kX11_isPass_1 {a : Array Value} {s : State} (hts : ∀ w ∈ wsX11_isPass, w.before a s = true) : (.fieldLink RX11 39 "SnowMulesModel" "said" "[I" : Cond).before a s = true := hts _ (List.mem_of_getElem? (i := 1) (by decide +kernel))
theorem kX11_isJar_1 {a : Array Value} {s : State} (hts : ∀ w ∈ wsX11_isJar, w.before a s = true) : (.fieldLink RX11 39 "SnowMulesModel" "said" "[I" : Cond).before a s = true := hts _ (List.mem_of_getElem? (i := 1) (by decide +kernel))
theorem kX11_isLaw_1 {a : Array Value} {s : State} (hts : ∀ w ∈ wsX11_isLaw, w.before a s = true) : (.fieldLink RX11 232 "SnowMulesModel" "laws" "I" : Cond).before a s = true := hts _ (List.mem_of_getElem? (i := 1) (by decide +kernel))
theorem kX11_monthAt_1 {a : Array Value} {s : State} (hts : ∀ w ∈ wsX11_monthAt, w.before a s = true) : (.fieldLink RX11 39 "SnowMulesModel" "said" "[I" : Cond).before a s = true := hts _ (List.mem_of_getElem? (i := 1) (by decide +kernel))
theorem kX11_nodeOf_1 {a : Array Value} {s : State} (hts : ∀ w ∈ wsX11_nodeOf, w.before a s = true) : (.fieldLink RX11 39 "SnowMulesModel" "said" "[I" : Cond).before a s = true := hts _ (List.mem_of_getElem? (i := 1) (by decide +kernel))
theorem kX11_passOf_1 {a : Array Value} {s : State} (hts : ∀ w ∈ wsX11_passOf, w.before a s = true) : (.fieldLink RX11 39 "SnowMulesModel" "said" "[I" : Cond).before a s = true := hts _ (List.mem_of_getElem? (i := 1) (by decide +kernel))
theorem kX11_jarOf_1 {a : Array Value} {s : State} (hts : ∀ w ∈ wsX11_jarOf, w.before a s = true) : (.fieldLink RX11 39 "SnowMulesModel" "said" "[I" : Cond).before a s = true := hts _ (List.mem_of_getElem? (i := 1) (by decide +kernel))
theorem iX11_isNode_X11 : ∀ w ∈ wsX110, w ∈ wsX11_isNode := by decide +kernel
theorem iX11_isPass_X11 : ∀ w ∈ wsX110, w ∈ wsX11_isPass := by decide +kernel
theorem iX11_isJar_X11 : ∀ w ∈ wsX110, w ∈ wsX11_isJar := by decide +kernel
theorem iX11_isLaw_X11 : ∀ w ∈ wsX110, w ∈ wsX11_isLaw := by decide +kernel
theorem iX11_monthAt_X11 : ∀ w ∈ wsX110, w ∈ wsX11_monthAt := by decide +kernel
theorem iX11_nodeOf_X11 : ∀ w ∈ wsX110, w ∈ wsX11_nodeOf := by decide +kernel
theorem iX11_passOf_X11 : ∀ w ∈ wsX110, w ∈ wsX11_passOf := by decide +kernel
theorem iX11_jarOf_X11 : ∀ w ∈ wsX110, w ∈ wsX11_jarOf := by decide +kernel
theorem dX11_in_0 : decode cX11_in 0 = .ok (.lload_n 0, 1) := by decide +kernel
theorem dX11_in_1 : decode cX11_in 1 = .ok (.lload_n 2, 1) := by decide +kernel
theorem dX11_in_2 : decode cX11_in 2 = .ok (.lcmp, 1) := by decide +kernel
theorem dX11_in_3 : decode cX11_in 3 = .ok (.ifCond .lt 14, 3) := by decide +kernel
theorem dX11_in_17 : decode cX11_in 17 = .ok (.iconst 0, 1) := by decide +kernel
theorem dX11_in_18 : decode cX11_in 18 = .ok (.ireturn, 1) := by decide +kernel
theorem dX11_in_6 : decode cX11_in 6 = .ok (.lload_n 0, 1) := by decide +kernel
theorem dX11_in_7 : decode cX11_in 7 = .ok (.lload 4, 2) := by decide +kernel
theorem dX11_in_9 : decode cX11_in 9 = .ok (.lcmp, 1) := by decide +kernel
theorem dX11_in_10 : decode cX11_in 10 = .ok (.ifCond .gt 7, 3) := by decide +kernel
theorem dX11_in_13 : decode cX11_in 13 = .ok (.iconst 1, 1) := by decide +kernel
theorem dX11_in_14 : decode cX11_in 14 = .ok (.goto 4, 3) := by decide +kernel
theorem dX11_bounded_0 : decode cX11_bounded 0 = .ok (.lload_n 0, 1) := by decide +kernel
theorem dX11_bounded_1 : decode cX11_bounded 1 = .ok (.lload_n 2, 1) := by decide +kernel
theorem dX11_bounded_2 : decode cX11_bounded 2 = .ok (.lcmp, 1) := by decide +kernel
theorem dX11_bounded_3 : decode cX11_bounded 3 = .ok (.ifCond .ge 7, 3) := by decide +kernel
theorem dX11_bounded_10 : decode cX11_bounded 10 = .ok (.lload_n 0, 1) := by decide +kernel
theorem dX11_bounded_11 : decode cX11_bounded 11 = .ok (.lload 4, 2) := by decide +kernel
theorem dX11_bounded_13 : decode cX11_bounded 13 = .ok (.lcmp, 1) := by decide +kernel
theorem dX11_bounded_14 : decode cX11_bounded 14 = .ok (.ifCond .le 8, 3) := by decide +kernel
theorem dX11_bounded_22 : decode cX11_bounded 22 = .ok (.lload_n 0, 1) := by decide +kernel
theorem dX11_bounded_23 : decode cX11_bounded 23 = .ok (.lreturn, 1) := by decide +kernel
theorem dX11_bounded_17 : decode cX11_bounded 17 = .ok (.lload 4, 2) := by decide +kernel
theorem dX11_bounded_19 : decode cX11_bounded 19 = .ok (.goto 4, 3) := by decide +kernel
theorem dX11_bounded_6 : decode cX11_bounded 6 = .ok (.lload_n 2, 1) := by decide +kernel
theorem dX11_bounded_7 : decode cX11_bounded 7 = .ok (.goto 16, 3) := by decide +kernel
theorem dX11_isNode_0 : decode cX11_isNode 0 = .ok (.iload_n 1, 1) := by decide +kernel
theorem dX11_isNode_1 : decode cX11_isNode 1 = .ok (.ifCond .lt 17, 3) := by decide +kernel
theorem dX11_isNode_18 : decode cX11_isNode 18 = .ok (.iconst 0, 1) := by decide +kernel
theorem dX11_isNode_19 : decode cX11_isNode 19 = .ok (.ireturn, 1) := by decide +kernel
theorem dX11_isNode_4 : decode cX11_isNode 4 = .ok (.iload_n 1, 1) := by decide +kernel
theorem dX11_isNode_5 : decode cX11_isNode 5 = .ok (.aload_n 0, 1) := by decide +kernel
theorem dX11_isNode_6 : decode cX11_isNode 6 = .ok (.getfield 39, 3) := by decide +kernel
theorem dX11_isNode_9 : decode cX11_isNode 9 = .ok (.iconst 0, 1) := by decide +kernel
theorem dX11_isNode_10 : decode cX11_isNode 10 = .ok (.iaload, 1) := by decide +kernel
theorem dX11_isNode_11 : decode cX11_isNode 11 = .ok (.if_icmp .ge 7, 3) := by decide +kernel
theorem dX11_isNode_14 : decode cX11_isNode 14 = .ok (.iconst 1, 1) := by decide +kernel
theorem dX11_isNode_15 : decode cX11_isNode 15 = .ok (.goto 4, 3) := by decide +kernel
theorem dX11_isPass_0 : decode cX11_isPass 0 = .ok (.iload_n 1, 1) := by decide +kernel
theorem dX11_isPass_1 : decode cX11_isPass 1 = .ok (.ifCond .lt 17, 3) := by decide +kernel
theorem dX11_isPass_18 : decode cX11_isPass 18 = .ok (.iconst 0, 1) := by decide +kernel
theorem dX11_isPass_19 : decode cX11_isPass 19 = .ok (.ireturn, 1) := by decide +kernel
theorem dX11_isPass_4 : decode cX11_isPass 4 = .ok (.iload_n 1, 1) := by decide +kernel
theorem dX11_isPass_5 : decode cX11_isPass 5 = .ok (.aload_n 0, 1) := by decide +kernel
theorem dX11_isPass_6 : decode cX11_isPass 6 = .ok (.getfield 39, 3) := by decide +kernel
theorem dX11_isPass_9 : decode cX11_isPass 9 = .ok (.iconst 1, 1) := by decide +kernel
theorem dX11_isPass_10 : decode cX11_isPass 10 = .ok (.iaload, 1) := by decide +kernel
theorem dX11_isPass_11 : decode cX11_isPass 11 = .ok (.if_icmp .ge 7, 3) := by decide +kernel
theorem dX11_isPass_14 : decode cX11_isPass 14 = .ok (.iconst 1, 1) := by decide +kernel
theorem dX11_isPass_15 : decode cX11_isPass 15 = .ok (.goto 4, 3) := by decide +kernel
theorem dX11_isJar_0 : decode cX11_isJar 0 = .ok (.iload_n 1, 1) := by decide +kernel
theorem dX11_isJar_1 : decode cX11_isJar 1 = .ok (.ifCond .lt 17, 3) := by decide +kernel
theorem dX11_isJar_18 : decode cX11_isJar 18 = .ok (.iconst 0, 1) := by decide +kernel
theorem dX11_isJar_19 : decode cX11_isJar 19 = .ok (.ireturn, 1) := by decide +kernel
theorem dX11_isJar_4 : decode cX11_isJar 4 = .ok (.iload_n 1, 1) := by decide +kernel
theorem dX11_isJar_5 : decode cX11_isJar 5 = .ok (.aload_n 0, 1) := by decide +kernel
theorem dX11_isJar_6 : decode cX11_isJar 6 = .ok (.getfield 39, 3) := by decide +kernel
theorem dX11_isJar_9 : decode cX11_isJar 9 = .ok (.iconst 2, 1) := by decide +kernel
theorem dX11_isJar_10 : decode cX11_isJar 10 = .ok (.iaload, 1) := by decide +kernel
theorem dX11_isJar_11 : decode cX11_isJar 11 = .ok (.if_icmp .ge 7, 3) := by decide +kernel
theorem dX11_isJar_14 : decode cX11_isJar 14 = .ok (.iconst 1, 1) := by decide +kernel
theorem dX11_isJar_15 : decode cX11_isJar 15 = .ok (.goto 4, 3) := by decide +kernel
theorem dX11_isLaw_0 : decode cX11_isLaw 0 = .ok (.iload_n 1, 1) := by decide +kernel
theorem dX11_isLaw_1 : decode cX11_isLaw 1 = .ok (.ifCond .lt 15, 3) := by decide +kernel
theorem dX11_isLaw_16 : decode cX11_isLaw 16 = .ok (.iconst 0, 1) := by decide +kernel
theorem dX11_isLaw_17 : decode cX11_isLaw 17 = .ok (.ireturn, 1) := by decide +kernel
theorem dX11_isLaw_4 : decode cX11_isLaw 4 = .ok (.iload_n 1, 1) := by decide +kernel
theorem dX11_isLaw_5 : decode cX11_isLaw 5 = .ok (.aload_n 0, 1) := by decide +kernel
theorem dX11_isLaw_6 : decode cX11_isLaw 6 = .ok (.getfield 232, 3) := by decide +kernel
theorem dX11_isLaw_9 : decode cX11_isLaw 9 = .ok (.if_icmp .ge 7, 3) := by decide +kernel
theorem dX11_isLaw_12 : decode cX11_isLaw 12 = .ok (.iconst 1, 1) := by decide +kernel
theorem dX11_isLaw_13 : decode cX11_isLaw 13 = .ok (.goto 4, 3) := by decide +kernel
theorem dX11_monthAt_0 : decode cX11_monthAt 0 = .ok (.aload_n 0, 1) := by decide +kernel
theorem dX11_monthAt_1 : decode cX11_monthAt 1 = .ok (.getfield 39, 3) := by decide +kernel
theorem dX11_monthAt_4 : decode cX11_monthAt 4 = .ok (.bipush 6, 2) := by decide +kernel
theorem dX11_monthAt_6 : decode cX11_monthAt 6 = .ok (.iaload, 1) := by decide +kernel
theorem dX11_monthAt_7 : decode cX11_monthAt 7 = .ok (.iload_n 1, 1) := by decide +kernel
theorem dX11_monthAt_8 : decode cX11_monthAt 8 = .ok (.bipush 24, 2) := by decide +kernel
theorem dX11_monthAt_10 : decode cX11_monthAt 10 = .ok (.idiv, 1) := by decide +kernel
theorem dX11_monthAt_11 : decode cX11_monthAt 11 = .ok (.bipush 30, 2) := by decide +kernel
theorem dX11_monthAt_13 : decode cX11_monthAt 13 = .ok (.idiv, 1) := by decide +kernel
theorem dX11_monthAt_14 : decode cX11_monthAt 14 = .ok (.iadd, 1) := by decide +kernel
theorem dX11_monthAt_15 : decode cX11_monthAt 15 = .ok (.bipush 12, 2) := by decide +kernel
theorem dX11_monthAt_17 : decode cX11_monthAt 17 = .ok (.irem, 1) := by decide +kernel
theorem dX11_monthAt_18 : decode cX11_monthAt 18 = .ok (.ireturn, 1) := by decide +kernel
theorem dX11_nodeOf_0 : decode cX11_nodeOf 0 = .ok (.aload_n 0, 1) := by decide +kernel
theorem dX11_nodeOf_1 : decode cX11_nodeOf 1 = .ok (.getfield 39, 3) := by decide +kernel
theorem dX11_nodeOf_4 : decode cX11_nodeOf 4 = .ok (.bipush 20, 2) := by decide +kernel
theorem dX11_nodeOf_6 : decode cX11_nodeOf 6 = .ok (.iconst 4, 1) := by decide +kernel
theorem dX11_nodeOf_7 : decode cX11_nodeOf 7 = .ok (.iload_n 1, 1) := by decide +kernel
theorem dX11_nodeOf_8 : decode cX11_nodeOf 8 = .ok (.imul, 1) := by decide +kernel
theorem dX11_nodeOf_9 : decode cX11_nodeOf 9 = .ok (.iadd, 1) := by decide +kernel
theorem dX11_nodeOf_10 : decode cX11_nodeOf 10 = .ok (.iload_n 2, 1) := by decide +kernel
theorem dX11_nodeOf_11 : decode cX11_nodeOf 11 = .ok (.iadd, 1) := by decide +kernel
theorem dX11_nodeOf_12 : decode cX11_nodeOf 12 = .ok (.iaload, 1) := by decide +kernel
theorem dX11_nodeOf_13 : decode cX11_nodeOf 13 = .ok (.ireturn, 1) := by decide +kernel
theorem dX11_passOf_0 : decode cX11_passOf 0 = .ok (.aload_n 0, 1) := by decide +kernel
theorem dX11_passOf_1 : decode cX11_passOf 1 = .ok (.getfield 39, 3) := by decide +kernel
theorem dX11_passOf_4 : decode cX11_passOf 4 = .ok (.bipush 68, 2) := by decide +kernel
theorem dX11_passOf_6 : decode cX11_passOf 6 = .ok (.iconst 5, 1) := by decide +kernel
theorem dX11_passOf_7 : decode cX11_passOf 7 = .ok (.iload_n 1, 1) := by decide +kernel
theorem dX11_passOf_8 : decode cX11_passOf 8 = .ok (.imul, 1) := by decide +kernel
theorem dX11_passOf_9 : decode cX11_passOf 9 = .ok (.iadd, 1) := by decide +kernel
theorem dX11_passOf_10 : decode cX11_passOf 10 = .ok (.iload_n 2, 1) := by decide +kernel
theorem dX11_passOf_11 : decode cX11_passOf 11 = .ok (.iadd, 1) := by decide +kernel
theorem dX11_passOf_12 : decode cX11_passOf 12 = .ok (.iaload, 1) := by decide +kernel
theorem dX11_passOf_13 : decode cX11_passOf 13 = .ok (.ireturn, 1) := by decide +kernel
theorem dX11_jarOf_0 : decode cX11_jarOf 0 = .ok (.aload_n 0, 1) := by decide +kernel
theorem dX11_jarOf_1 : decode cX11_jarOf 1 = .ok (.getfield 39, 3) := by decide +kernel
theorem dX11_jarOf_4 : decode cX11_jarOf 4 = .ok (.sipush 168, 3) := by decide +kernel
theorem dX11_jarOf_7 : decode cX11_jarOf 7 = .ok (.bipush 9, 2) := by decide +kernel
theorem dX11_jarOf_9 : decode cX11_jarOf 9 = .ok (.iload_n 1, 1) := by decide +kernel
theorem dX11_jarOf_10 : decode cX11_jarOf 10 = .ok (.imul, 1) := by decide +kernel
theorem dX11_jarOf_11 : decode cX11_jarOf 11 = .ok (.iadd, 1) := by decide +kernel
theorem dX11_jarOf_12 : decode cX11_jarOf 12 = .ok (.iload_n 2, 1) := by decide +kernel
theorem dX11_jarOf_13 : decode cX11_jarOf 13 = .ok (.iadd, 1) := by decide +kernel
theorem dX11_jarOf_14 : decode cX11_jarOf 14 = .ok (.iaload, 1) := by decide +kernel
theorem dX11_jarOf_15 : decode cX11_jarOf 15 = .ok (.ireturn, 1) := by decide +kernel
theorem dX11_hasSnow_0 : decode cX11_hasSnow 0 = .ok (.aload_n 0, 1) := by decide +kernel
theorem dX11_hasSnow_1 : decode cX11_hasSnow 1 = .ok (.iload_n 1, 1) := by decide +kernel
theorem dX11_hasSnow_2 : decode cX11_hasSnow 2 = .ok (.iconst 1, 1) := by decide +kernel
theorem dX11_hasSnow_3 : decode cX11_hasSnow 3 = .ok (.invokevirtual 257, 3) := by decide +kernel
theorem dX11_hasSnow_6 : decode cX11_hasSnow 6 = .ok (.iload_n 2, 1) := by decide +kernel
theorem dX11_hasSnow_7 : decode cX11_hasSnow 7 = .ok (.ishr, 1) := by decide +kernel
theorem dX11_hasSnow_8 : decode cX11_hasSnow 8 = .ok (.iconst 1, 1) := by decide +kernel
theorem dX11_hasSnow_9 : decode cX11_hasSnow 9 = .ok (.iand, 1) := by decide +kernel
theorem dX11_hasSnow_10 : decode cX11_hasSnow 10 = .ok (.iconst 1, 1) := by decide +kernel
theorem dX11_hasSnow_11 : decode cX11_hasSnow 11 = .ok (.if_icmp .ne 7, 3) := by decide +kernel
theorem dX11_hasSnow_18 : decode cX11_hasSnow 18 = .ok (.iconst 0, 1) := by decide +kernel
theorem dX11_hasSnow_19 : decode cX11_hasSnow 19 = .ok (.ireturn, 1) := by decide +kernel
theorem dX11_hasSnow_14 : decode cX11_hasSnow 14 = .ok (.iconst 1, 1) := by decide +kernel
theorem dX11_hasSnow_15 : decode cX11_hasSnow 15 = .ok (.goto 4, 3) := by decide +kernel
theorem dX11_other_0 : decode cX11_other 0 = .ok (.aload_n 0, 1) := by decide +kernel
theorem dX11_other_1 : decode cX11_other 1 = .ok (.iload_n 1, 1) := by decide +kernel
theorem dX11_other_2 : decode cX11_other 2 = .ok (.iconst 0, 1) := by decide +kernel
theorem dX11_other_3 : decode cX11_other 3 = .ok (.invokevirtual 303, 3) := by decide +kernel
theorem dX11_other_6 : decode cX11_other 6 = .ok (.iload_n 2, 1) := by decide +kernel
theorem dX11_other_7 : decode cX11_other 7 = .ok (.if_icmp .ne 12, 3) := by decide +kernel
theorem dX11_other_19 : decode cX11_other 19 = .ok (.aload_n 0, 1) := by decide +kernel
theorem dX11_other_20 : decode cX11_other 20 = .ok (.iload_n 1, 1) := by decide +kernel
theorem dX11_other_21 : decode cX11_other 21 = .ok (.iconst 1, 1) := by decide +kernel
theorem dX11_other_22 : decode cX11_other 22 = .ok (.invokevirtual 303, 3) := by decide +kernel
theorem dX11_other_25 : decode cX11_other 25 = .ok (.iload_n 2, 1) := by decide +kernel
theorem dX11_other_26 : decode cX11_other 26 = .ok (.if_icmp .ne 12, 3) := by decide +kernel
theorem dX11_other_38 : decode cX11_other 38 = .ok (.iconst (-1), 1) := by decide +kernel
theorem dX11_other_39 : decode cX11_other 39 = .ok (.ireturn, 1) := by decide +kernel
theorem dX11_other_29 : decode cX11_other 29 = .ok (.aload_n 0, 1) := by decide +kernel
theorem dX11_other_30 : decode cX11_other 30 = .ok (.iload_n 1, 1) := by decide +kernel
theorem dX11_other_31 : decode cX11_other 31 = .ok (.iconst 0, 1) := by decide +kernel
theorem dX11_other_32 : decode cX11_other 32 = .ok (.invokevirtual 303, 3) := by decide +kernel
theorem dX11_other_35 : decode cX11_other 35 = .ok (.goto 4, 3) := by decide +kernel
theorem dX11_other_10 : decode cX11_other 10 = .ok (.aload_n 0, 1) := by decide +kernel
theorem dX11_other_11 : decode cX11_other 11 = .ok (.iload_n 1, 1) := by decide +kernel
theorem dX11_other_12 : decode cX11_other 12 = .ok (.iconst 1, 1) := by decide +kernel
theorem dX11_other_13 : decode cX11_other 13 = .ok (.invokevirtual 303, 3) := by decide +kernel
theorem dX11_other_16 : decode cX11_other 16 = .ok (.goto 23, 3) := by decide +kernel
theorem dX11_stands_0 : decode cX11_stands 0 = .ok (.aload_n 0, 1) := by decide +kernel
theorem dX11_stands_1 : decode cX11_stands 1 = .ok (.iload_n 1, 1) := by decide +kernel
theorem dX11_stands_2 : decode cX11_stands 2 = .ok (.invokevirtual 280, 3) := by decide +kernel
theorem dX11_stands_5 : decode cX11_stands 5 = .ok (.ifCond .eq 18, 3) := by decide +kernel
theorem dX11_stands_23 : decode cX11_stands 23 = .ok (.iconst 0, 1) := by decide +kernel
theorem dX11_stands_24 : decode cX11_stands 24 = .ok (.ireturn, 1) := by decide +kernel
theorem dX11_stands_8 : decode cX11_stands 8 = .ok (.aload_n 0, 1) := by decide +kernel
theorem dX11_stands_9 : decode cX11_stands 9 = .ok (.iload_n 1, 1) := by decide +kernel
theorem dX11_stands_10 : decode cX11_stands 10 = .ok (.iconst 5, 1) := by decide +kernel
theorem dX11_stands_11 : decode cX11_stands 11 = .ok (.invokevirtual 283, 3) := by decide +kernel
theorem dX11_stands_14 : decode cX11_stands 14 = .ok (.bipush 12, 2) := by decide +kernel
theorem dX11_stands_16 : decode cX11_stands 16 = .ok (.if_icmp .ge 7, 3) := by decide +kernel
theorem dX11_stands_19 : decode cX11_stands 19 = .ok (.iconst 1, 1) := by decide +kernel
theorem dX11_stands_20 : decode cX11_stands 20 = .ok (.goto 4, 3) := by decide +kernel

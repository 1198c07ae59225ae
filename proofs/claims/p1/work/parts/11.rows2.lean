theorem kX11_isNode_1 {a : Array Value} {s : State} (hts : ∀ w ∈ wsX11_isNode, w.before a s = true) : (.fieldLink RX11 39 "SnowMulesModel" "said" "[I" : Cond).before a s = true := hts _ (List.mem_of_getElem? (i := 1) (by decide +kernel))
theorem kX11_isJar_1 {a : Array Value} {s : State} (hts : ∀ w ∈ wsX11_isJar, w.before a s = true) : (.fieldLink RX11 39 "SnowMulesModel" "said" "[I" : Cond).before a s = true := hts _ (List.mem_of_getElem? (i := 1) (by decide +kernel))
theorem kX11_isLaw_1 {a : Array Value} {s : State} (hts : ∀ w ∈ wsX11_isLaw, w.before a s = true) : (.fieldLink RX11 232 "SnowMulesModel" "laws" "I" : Cond).before a s = true := hts _ (List.mem_of_getElem? (i := 1) (by decide +kernel))
theorem kX11_monthAt_1 {a : Array Value} {s : State} (hts : ∀ w ∈ wsX11_monthAt, w.before a s = true) : (.fieldLink RX11 39 "SnowMulesModel" "said" "[I" : Cond).before a s = true := hts _ (List.mem_of_getElem? (i := 1) (by decide +kernel))
theorem kX11_see_1 {a : Array Value} {s : State} (hts : ∀ w ∈ wsX11_see, w.before a s = true) : (.fieldLink RX11 90 "SnowMulesModel" "next" "I" : Cond).before a s = true := hts _ (List.mem_of_getElem? (i := 1) (by decide +kernel))
theorem kX11_see_2 {a : Array Value} {s : State} (hts : ∀ w ∈ wsX11_see, w.before a s = true) : (.fieldLink RX11 79 "SnowMulesModel" "taped" "I" : Cond).before a s = true := hts _ (List.mem_of_getElem? (i := 2) (by decide +kernel))
theorem kX11_isLetter_1 {a : Array Value} {s : State} (hts : ∀ w ∈ wsX11_isLetter, w.before a s = true) : (.fieldLink RX11 79 "SnowMulesModel" "taped" "I" : Cond).before a s = true := hts _ (List.mem_of_getElem? (i := 1) (by decide +kernel))
theorem kX11_isWord_1 {a : Array Value} {s : State} (hts : ∀ w ∈ wsX11_isWord, w.before a s = true) : (.fieldLink RX11 90 "SnowMulesModel" "next" "I" : Cond).before a s = true := hts _ (List.mem_of_getElem? (i := 1) (by decide +kernel))
theorem kX11_fails_1 {a : Array Value} {s : State} (hts : ∀ w ∈ wsX11_fails, w.before a s = true) : (.fieldLink RX11 87 "SnowMulesModel" "wrong" "I" : Cond).before a s = true := hts _ (List.mem_of_getElem? (i := 1) (by decide +kernel))
theorem kX11_clauseHere_1 {a : Array Value} {s : State} (hts : ∀ w ∈ wsX11_clauseHere, w.before a s = true) : (.fieldLink RX11 90 "SnowMulesModel" "next" "I" : Cond).before a s = true := hts _ (List.mem_of_getElem? (i := 1) (by decide +kernel))
theorem kX11_clauseHere_2 {a : Array Value} {s : State} (hts : ∀ w ∈ wsX11_clauseHere, w.before a s = true) : (.constantLong RX11 216 (1835363444) : Cond).before a s = true := hts _ (List.mem_of_getElem? (i := 2) (by decide +kernel))
theorem kX11_clauseHere_3 {a : Array Value} {s : State} (hts : ∀ w ∈ wsX11_clauseHere, w.before a s = true) : (.constantLong RX11 218 (1919251316) : Cond).before a s = true := hts _ (List.mem_of_getElem? (i := 3) (by decide +kernel))
theorem kX11_clauseHere_4 {a : Array Value} {s : State} (hts : ∀ w ∈ wsX11_clauseHere, w.before a s = true) : (.constantLong RX11 220 (495672455781) : Cond).before a s = true := hts _ (List.mem_of_getElem? (i := 4) (by decide +kernel))
theorem kX11_clauseHere_5 {a : Array Value} {s : State} (hts : ∀ w ∈ wsX11_clauseHere, w.before a s = true) : (.constantLong RX11 222 (422877229940) : Cond).before a s = true := hts _ (List.mem_of_getElem? (i := 5) (by decide +kernel))
theorem kX11_clauseHere_6 {a : Array Value} {s : State} (hts : ∀ w ∈ wsX11_clauseHere, w.before a s = true) : (.constantLong RX11 224 (426952976750) : Cond).before a s = true := hts _ (List.mem_of_getElem? (i := 6) (by decide +kernel))
theorem kX11_four_1 {a : Array Value} {s : State} (hts : ∀ w ∈ wsX11_four, w.before a s = true) : (.fieldLink RX11 7 "SnowMulesModel" "tape" "[B" : Cond).before a s = true := hts _ (List.mem_of_getElem? (i := 1) (by decide +kernel))
theorem kX11_four_2 {a : Array Value} {s : State} (hts : ∀ w ∈ wsX11_four, w.before a s = true) : (.fieldLink RX11 79 "SnowMulesModel" "taped" "I" : Cond).before a s = true := hts _ (List.mem_of_getElem? (i := 2) (by decide +kernel))
theorem kX11_image_3 {a : Array Value} {s : State} (hts : ∀ w ∈ wsX11_image, w.before a s = true) : (.fieldLink RX11 72 "SnowMulesModel" "images" "[I" : Cond).before a s = true := hts _ (List.mem_of_getElem? (i := 3) (by decide +kernel))
theorem kX11_image_4 {a : Array Value} {s : State} (hts : ∀ w ∈ wsX11_image, w.before a s = true) : (.fieldLink RX11 39 "SnowMulesModel" "said" "[I" : Cond).before a s = true := hts _ (List.mem_of_getElem? (i := 4) (by decide +kernel))
theorem kX11_node_1 {a : Array Value} {s : State} (hts : ∀ w ∈ wsX11_node, w.before a s = true) : (.fieldLink RX11 39 "SnowMulesModel" "said" "[I" : Cond).before a s = true := hts _ (List.mem_of_getElem? (i := 1) (by decide +kernel))
theorem kX11_node_2 {a : Array Value} {s : State} (hts : ∀ w ∈ wsX11_node, w.before a s = true) : (.constantLong RX11 261 (400) : Cond).before a s = true := hts _ (List.mem_of_getElem? (i := 2) (by decide +kernel))
theorem kX11_node_3 {a : Array Value} {s : State} (hts : ∀ w ∈ wsX11_node, w.before a s = true) : (.constantLong RX11 263 (4095) : Cond).before a s = true := hts _ (List.mem_of_getElem? (i := 3) (by decide +kernel))
theorem kX11_node_4 {a : Array Value} {s : State} (hts : ∀ w ∈ wsX11_node, w.before a s = true) : (.constantLong RX11 265 (9) : Cond).before a s = true := hts _ (List.mem_of_getElem? (i := 4) (by decide +kernel))
theorem kX11_pass_1 {a : Array Value} {s : State} (hts : ∀ w ∈ wsX11_pass, w.before a s = true) : (.fieldLink RX11 39 "SnowMulesModel" "said" "[I" : Cond).before a s = true := hts _ (List.mem_of_getElem? (i := 1) (by decide +kernel))
theorem kX11_jar_1 {a : Array Value} {s : State} (hts : ∀ w ∈ wsX11_jar, w.before a s = true) : (.fieldLink RX11 39 "SnowMulesModel" "said" "[I" : Cond).before a s = true := hts _ (List.mem_of_getElem? (i := 1) (by decide +kernel))
theorem kX11_month_1 {a : Array Value} {s : State} (hts : ∀ w ∈ wsX11_month, w.before a s = true) : (.constantLong RX11 278 (11) : Cond).before a s = true := hts _ (List.mem_of_getElem? (i := 1) (by decide +kernel))
theorem kX11_month_2 {a : Array Value} {s : State} (hts : ∀ w ∈ wsX11_month, w.before a s = true) : (.fieldLink RX11 39 "SnowMulesModel" "said" "[I" : Cond).before a s = true := hts _ (List.mem_of_getElem? (i := 2) (by decide +kernel))
theorem kX11_seed_1 {a : Array Value} {s : State} (hts : ∀ w ∈ wsX11_seed, w.before a s = true) : (.fieldLink RX11 39 "SnowMulesModel" "said" "[I" : Cond).before a s = true := hts _ (List.mem_of_getElem? (i := 1) (by decide +kernel))
theorem kX11_feed_1 {a : Array Value} {s : State} (hts : ∀ w ∈ wsX11_feed, w.before a s = true) : (.fieldLink RX11 79 "SnowMulesModel" "taped" "I" : Cond).before a s = true := hts _ (List.mem_of_getElem? (i := 1) (by decide +kernel))
theorem kX11_end_1 {a : Array Value} {s : State} (hts : ∀ w ∈ wsX11_end, w.before a s = true) : (.fieldLink RX11 79 "SnowMulesModel" "taped" "I" : Cond).before a s = true := hts _ (List.mem_of_getElem? (i := 1) (by decide +kernel))
theorem kX11_law_1 {a : Array Value} {s : State} (hts : ∀ w ∈ wsX11_law, w.before a s = true) : (.fieldLink RX11 232 "SnowMulesModel" "laws" "I" : Cond).before a s = true := hts _ (List.mem_of_getElem? (i := 1) (by decide +kernel))
theorem kX11_law_2 {a : Array Value} {s : State} (hts : ∀ w ∈ wsX11_law, w.before a s = true) : (.fieldLink RX11 144 "SnowMulesModel" "text" "I" : Cond).before a s = true := hts _ (List.mem_of_getElem? (i := 2) (by decide +kernel))
theorem kX11_law_3 {a : Array Value} {s : State} (hts : ∀ w ∈ wsX11_law, w.before a s = true) : (.fieldLink RX11 17 "SnowMulesModel" "length" "[I" : Cond).before a s = true := hts _ (List.mem_of_getElem? (i := 3) (by decide +kernel))
theorem kX11_law_4 {a : Array Value} {s : State} (hts : ∀ w ∈ wsX11_law, w.before a s = true) : (.fieldLink RX11 23 "SnowMulesModel" "clauses" "[I" : Cond).before a s = true := hts _ (List.mem_of_getElem? (i := 4) (by decide +kernel))
theorem kX11_law_5 {a : Array Value} {s : State} (hts : ∀ w ∈ wsX11_law, w.before a s = true) : (.fieldLink RX11 26 "SnowMulesModel" "chain" "[I" : Cond).before a s = true := hts _ (List.mem_of_getElem? (i := 5) (by decide +kernel))
theorem kX11_law_6 {a : Array Value} {s : State} (hts : ∀ w ∈ wsX11_law, w.before a s = true) : (.fieldLink RX11 226 "SnowMulesModel" "lines" "I" : Cond).before a s = true := hts _ (List.mem_of_getElem? (i := 6) (by decide +kernel))
theorem kX11_law_7 {a : Array Value} {s : State} (hts : ∀ w ∈ wsX11_law, w.before a s = true) : (.fieldLink RX11 90 "SnowMulesModel" "next" "I" : Cond).before a s = true := hts _ (List.mem_of_getElem? (i := 7) (by decide +kernel))
theorem kX11_law_8 {a : Array Value} {s : State} (hts : ∀ w ∈ wsX11_law, w.before a s = true) : (.fieldLink RX11 87 "SnowMulesModel" "wrong" "I" : Cond).before a s = true := hts _ (List.mem_of_getElem? (i := 8) (by decide +kernel))
theorem kX11_law_9 {a : Array Value} {s : State} (hts : ∀ w ∈ wsX11_law, w.before a s = true) : (.fieldLink RX11 147 "SnowMulesModel" "made" "I" : Cond).before a s = true := hts _ (List.mem_of_getElem? (i := 9) (by decide +kernel))
theorem kX11_law_10 {a : Array Value} {s : State} (hts : ∀ w ∈ wsX11_law, w.before a s = true) : (.fieldLink RX11 79 "SnowMulesModel" "taped" "I" : Cond).before a s = true := hts _ (List.mem_of_getElem? (i := 10) (by decide +kernel))
theorem kX11_lay_1 {a : Array Value} {s : State} (hts : ∀ w ∈ wsX11_lay, w.before a s = true) : (.fieldLink RX11 39 "SnowMulesModel" "said" "[I" : Cond).before a s = true := hts _ (List.mem_of_getElem? (i := 1) (by decide +kernel))
theorem kX11_order_1 {a : Array Value} {s : State} (hts : ∀ w ∈ wsX11_order, w.before a s = true) : (.fieldLink RX11 39 "SnowMulesModel" "said" "[I" : Cond).before a s = true := hts _ (List.mem_of_getElem? (i := 1) (by decide +kernel))
theorem kX11_feast_1 {a : Array Value} {s : State} (hts : ∀ w ∈ wsX11_feast, w.before a s = true) : (.fieldLink RX11 39 "SnowMulesModel" "said" "[I" : Cond).before a s = true := hts _ (List.mem_of_getElem? (i := 1) (by decide +kernel))
theorem kX11_count_1 {a : Array Value} {s : State} (hts : ∀ w ∈ wsX11_count, w.before a s = true) : (.fieldLink RX11 39 "SnowMulesModel" "said" "[I" : Cond).before a s = true := hts _ (List.mem_of_getElem? (i := 1) (by decide +kernel))
theorem kX11_count_2 {a : Array Value} {s : State} (hts : ∀ w ∈ wsX11_count, w.before a s = true) : (.fieldLink RX11 232 "SnowMulesModel" "laws" "I" : Cond).before a s = true := hts _ (List.mem_of_getElem? (i := 2) (by decide +kernel))
theorem kX11_count_3 {a : Array Value} {s : State} (hts : ∀ w ∈ wsX11_count, w.before a s = true) : (.fieldLink RX11 79 "SnowMulesModel" "taped" "I" : Cond).before a s = true := hts _ (List.mem_of_getElem? (i := 3) (by decide +kernel))
theorem kX11_image_1 {a : Array Value} {s : State} (hts : ∀ w ∈ wsX11_image, w.before a s = true) : (.constantLong RX11 469 (3) : Cond).before a s = true := hts _ (List.mem_of_getElem? (i := 1) (by decide +kernel))
theorem kX11_image_2 {a : Array Value} {s : State} (hts : ∀ w ∈ wsX11_image, w.before a s = true) : (.fieldLink RX11 75 "SnowMulesModel" "isMade" "[Z" : Cond).before a s = true := hts _ (List.mem_of_getElem? (i := 2) (by decide +kernel))
theorem kX11_back_1 {a : Array Value} {s : State} (hts : ∀ w ∈ wsX11_back, w.before a s = true) : (.constantLong RX11 469 (3) : Cond).before a s = true := hts _ (List.mem_of_getElem? (i := 1) (by decide +kernel))
theorem kX11_back_2 {a : Array Value} {s : State} (hts : ∀ w ∈ wsX11_back, w.before a s = true) : (.fieldLink RX11 75 "SnowMulesModel" "isMade" "[Z" : Cond).before a s = true := hts _ (List.mem_of_getElem? (i := 2) (by decide +kernel))
theorem iX11_isNode_X11 : ∀ w ∈ wsX110, w ∈ wsX11_isNode := by decide +kernel
theorem iX11_isJar_X11 : ∀ w ∈ wsX110, w ∈ wsX11_isJar := by decide +kernel
theorem iX11_isLaw_X11 : ∀ w ∈ wsX110, w ∈ wsX11_isLaw := by decide +kernel
theorem iX11_monthAt_X11 : ∀ w ∈ wsX110, w ∈ wsX11_monthAt := by decide +kernel
theorem iX11_see_X11 : ∀ w ∈ wsX110, w ∈ wsX11_see := by decide +kernel
theorem iX11_isLetter_X11 : ∀ w ∈ wsX110, w ∈ wsX11_isLetter := by decide +kernel
theorem iX11_isWord_X11 : ∀ w ∈ wsX110, w ∈ wsX11_isWord := by decide +kernel
theorem iX11_fails_X11 : ∀ w ∈ wsX110, w ∈ wsX11_fails := by decide +kernel
theorem iX11_clauseHere_X11 : ∀ w ∈ wsX110, w ∈ wsX11_clauseHere := by decide +kernel
theorem iX11_four_X11 : ∀ w ∈ wsX110, w ∈ wsX11_four := by decide +kernel
theorem iX11_image_X11 : ∀ w ∈ wsX110, w ∈ wsX11_image := by decide +kernel
theorem iX11_node_X11 : ∀ w ∈ wsX110, w ∈ wsX11_node := by decide +kernel
theorem iX11_pass_X11 : ∀ w ∈ wsX110, w ∈ wsX11_pass := by decide +kernel
theorem iX11_jar_X11 : ∀ w ∈ wsX110, w ∈ wsX11_jar := by decide +kernel
theorem iX11_month_X11 : ∀ w ∈ wsX110, w ∈ wsX11_month := by decide +kernel
theorem iX11_seed_X11 : ∀ w ∈ wsX110, w ∈ wsX11_seed := by decide +kernel
theorem iX11_feed_X11 : ∀ w ∈ wsX110, w ∈ wsX11_feed := by decide +kernel
theorem iX11_end_X11 : ∀ w ∈ wsX110, w ∈ wsX11_end := by decide +kernel
theorem iX11_law_X11 : ∀ w ∈ wsX110, w ∈ wsX11_law := by decide +kernel
theorem iX11_lay_X11 : ∀ w ∈ wsX110, w ∈ wsX11_lay := by decide +kernel
theorem iX11_order_X11 : ∀ w ∈ wsX110, w ∈ wsX11_order := by decide +kernel
theorem iX11_feast_X11 : ∀ w ∈ wsX110, w ∈ wsX11_feast := by decide +kernel
theorem iX11_count_X11 : ∀ w ∈ wsX110, w ∈ wsX11_count := by decide +kernel
theorem iX11_back_X11 : ∀ w ∈ wsX110, w ∈ wsX11_back := by decide +kernel
theorem dX11_in_0 : decode cX11_in 0 = .ok (.lload_n 0, 1) := by decide +kernel
theorem dX11_in_1 : decode cX11_in 1 = .ok (.lload_n 2, 1) := by decide +kernel
theorem dX11_in_2 : decode cX11_in 2 = .ok (.lcmp, 1) := by decide +kernel
theorem dX11_in_3 : decode cX11_in 3 = .ok (.ifCond .lt 14, 3) := by decide +kernel
theorem dX11_in_17 : decode cX11_in 17 = .ok (.iconst 0, 1) := by decide +kernel
theorem dX11_in_18 : decode cX11_in 18 = .ok (.ireturn, 1) := by decide +kernel
theorem dX11_in_6 : decode cX11_in 6 = .ok (.lload_n 0, 1) := by decide +kernel
theorem dX11_in_7 : decode cX11_in 7 = .ok (.lload 4, 2) := by decide +kernel
theorem dX11_in_9 : decode cX11_in 9 = .ok (.lcmp, 1) := by decide +kernel
theorem dX11_in_10 : decode cX11_in 10 = .ok (.ifCond .gt 7, 3) := by decide +kernel
theorem dX11_in_13 : decode cX11_in 13 = .ok (.iconst 1, 1) := by decide +kernel
theorem dX11_in_14 : decode cX11_in 14 = .ok (.goto 4, 3) := by decide +kernel
theorem dX11_isNode_0 : decode cX11_isNode 0 = .ok (.iload_n 1, 1) := by decide +kernel
theorem dX11_isNode_1 : decode cX11_isNode 1 = .ok (.ifCond .lt 17, 3) := by decide +kernel
theorem dX11_isNode_18 : decode cX11_isNode 18 = .ok (.iconst 0, 1) := by decide +kernel
theorem dX11_isNode_19 : decode cX11_isNode 19 = .ok (.ireturn, 1) := by decide +kernel
theorem dX11_isNode_4 : decode cX11_isNode 4 = .ok (.iload_n 1, 1) := by decide +kernel
theorem dX11_isNode_5 : decode cX11_isNode 5 = .ok (.aload_n 0, 1) := by decide +kernel
theorem dX11_isNode_6 : decode cX11_isNode 6 = .ok (.getfield 39, 3) := by decide +kernel
theorem dX11_isNode_9 : decode cX11_isNode 9 = .ok (.iconst 0, 1) := by decide +kernel
theorem dX11_isNode_10 : decode cX11_isNode 10 = .ok (.iaload, 1) := by decide +kernel
theorem dX11_isNode_11 : decode cX11_isNode 11 = .ok (.if_icmp .ge 7, 3) := by decide +kernel
theorem dX11_isNode_14 : decode cX11_isNode 14 = .ok (.iconst 1, 1) := by decide +kernel
theorem dX11_isNode_15 : decode cX11_isNode 15 = .ok (.goto 4, 3) := by decide +kernel
theorem dX11_isJar_0 : decode cX11_isJar 0 = .ok (.iload_n 1, 1) := by decide +kernel
theorem dX11_isJar_1 : decode cX11_isJar 1 = .ok (.ifCond .lt 17, 3) := by decide +kernel
theorem dX11_isJar_18 : decode cX11_isJar 18 = .ok (.iconst 0, 1) := by decide +kernel
theorem dX11_isJar_19 : decode cX11_isJar 19 = .ok (.ireturn, 1) := by decide +kernel
theorem dX11_isJar_4 : decode cX11_isJar 4 = .ok (.iload_n 1, 1) := by decide +kernel
theorem dX11_isJar_5 : decode cX11_isJar 5 = .ok (.aload_n 0, 1) := by decide +kernel
theorem dX11_isJar_6 : decode cX11_isJar 6 = .ok (.getfield 39, 3) := by decide +kernel
theorem dX11_isJar_9 : decode cX11_isJar 9 = .ok (.iconst 2, 1) := by decide +kernel
theorem dX11_isJar_10 : decode cX11_isJar 10 = .ok (.iaload, 1) := by decide +kernel
theorem dX11_isJar_11 : decode cX11_isJar 11 = .ok (.if_icmp .ge 7, 3) := by decide +kernel
theorem dX11_isJar_14 : decode cX11_isJar 14 = .ok (.iconst 1, 1) := by decide +kernel
theorem dX11_isJar_15 : decode cX11_isJar 15 = .ok (.goto 4, 3) := by decide +kernel
theorem dX11_isLaw_0 : decode cX11_isLaw 0 = .ok (.iload_n 1, 1) := by decide +kernel
theorem dX11_isLaw_1 : decode cX11_isLaw 1 = .ok (.ifCond .lt 15, 3) := by decide +kernel
theorem dX11_isLaw_16 : decode cX11_isLaw 16 = .ok (.iconst 0, 1) := by decide +kernel
theorem dX11_isLaw_17 : decode cX11_isLaw 17 = .ok (.ireturn, 1) := by decide +kernel
theorem dX11_isLaw_4 : decode cX11_isLaw 4 = .ok (.iload_n 1, 1) := by decide +kernel
theorem dX11_isLaw_5 : decode cX11_isLaw 5 = .ok (.aload_n 0, 1) := by decide +kernel
theorem dX11_isLaw_6 : decode cX11_isLaw 6 = .ok (.getfield 232, 3) := by decide +kernel
theorem dX11_isLaw_9 : decode cX11_isLaw 9 = .ok (.if_icmp .ge 7, 3) := by decide +kernel
theorem dX11_isLaw_12 : decode cX11_isLaw 12 = .ok (.iconst 1, 1) := by decide +kernel
theorem dX11_isLaw_13 : decode cX11_isLaw 13 = .ok (.goto 4, 3) := by decide +kernel
theorem dX11_stands_0 : decode cX11_stands 0 = .ok (.aload_n 0, 1) := by decide +kernel
theorem dX11_stands_1 : decode cX11_stands 1 = .ok (.iload_n 1, 1) := by decide +kernel
theorem dX11_stands_2 : decode cX11_stands 2 = .ok (.invokevirtual 280, 3) := by decide +kernel
theorem dX11_stands_5 : decode cX11_stands 5 = .ok (.ifCond .eq 18, 3) := by decide +kernel
theorem dX11_stands_23 : decode cX11_stands 23 = .ok (.iconst 0, 1) := by decide +kernel
theorem dX11_stands_24 : decode cX11_stands 24 = .ok (.ireturn, 1) := by decide +kernel
theorem dX11_canTry_0 : decode cX11_canTry 0 = .ok (.aload_n 0, 1) := by decide +kernel
theorem dX11_canTry_1 : decode cX11_canTry 1 = .ok (.iload_n 1, 1) := by decide +kernel
theorem dX11_canTry_2 : decode cX11_canTry 2 = .ok (.invokevirtual 363, 3) := by decide +kernel
theorem dX11_canTry_5 : decode cX11_canTry 5 = .ok (.ifCond .eq 40, 3) := by decide +kernel
theorem dX11_canTry_45 : decode cX11_canTry 45 = .ok (.iconst 0, 1) := by decide +kernel
theorem dX11_canTry_46 : decode cX11_canTry 46 = .ok (.ireturn, 1) := by decide +kernel
theorem dX11_monthAt_0 : decode cX11_monthAt 0 = .ok (.aload_n 0, 1) := by decide +kernel
theorem dX11_monthAt_1 : decode cX11_monthAt 1 = .ok (.getfield 39, 3) := by decide +kernel
theorem dX11_monthAt_4 : decode cX11_monthAt 4 = .ok (.bipush 6, 2) := by decide +kernel
theorem dX11_monthAt_6 : decode cX11_monthAt 6 = .ok (.iaload, 1) := by decide +kernel
theorem dX11_monthAt_7 : decode cX11_monthAt 7 = .ok (.iload_n 1, 1) := by decide +kernel
theorem dX11_monthAt_8 : decode cX11_monthAt 8 = .ok (.bipush 24, 2) := by decide +kernel
theorem dX11_monthAt_10 : decode cX11_monthAt 10 = .ok (.idiv, 1) := by decide +kernel
theorem dX11_monthAt_11 : decode cX11_monthAt 11 = .ok (.bipush 30, 2) := by decide +kernel
theorem dX11_monthAt_13 : decode cX11_monthAt 13 = .ok (.idiv, 1) := by decide +kernel
theorem dX11_monthAt_14 : decode cX11_monthAt 14 = .ok (.iadd, 1) := by decide +kernel
theorem dX11_monthAt_15 : decode cX11_monthAt 15 = .ok (.bipush 12, 2) := by decide +kernel
theorem dX11_monthAt_17 : decode cX11_monthAt 17 = .ok (.irem, 1) := by decide +kernel
theorem dX11_monthAt_18 : decode cX11_monthAt 18 = .ok (.ireturn, 1) := by decide +kernel
theorem dX11_see_0 : decode cX11_see 0 = .ok (.aload_n 0, 1) := by decide +kernel
theorem dX11_see_1 : decode cX11_see 1 = .ok (.getfield 90, 3) := by decide +kernel
theorem dX11_see_4 : decode cX11_see 4 = .ok (.aload_n 0, 1) := by decide +kernel
theorem dX11_see_5 : decode cX11_see 5 = .ok (.getfield 79, 3) := by decide +kernel
theorem dX11_see_8 : decode cX11_see 8 = .ok (.if_icmp .ge 30, 3) := by decide +kernel
theorem dX11_see_38 : decode cX11_see 38 = .ok (.aload_n 0, 1) := by decide +kernel
theorem dX11_see_39 : decode cX11_see 39 = .ok (.getfield 90, 3) := by decide +kernel
theorem dX11_see_42 : decode cX11_see 42 = .ok (.aload_n 0, 1) := by decide +kernel
theorem dX11_see_43 : decode cX11_see 43 = .ok (.getfield 79, 3) := by decide +kernel
theorem dX11_see_46 : decode cX11_see 46 = .ok (.if_icmp .ge 19, 3) := by decide +kernel
theorem dX11_see_65 : decode cX11_see 65 = .ok (.iconst (-1), 1) := by decide +kernel
theorem dX11_see_66 : decode cX11_see 66 = .ok (.ireturn, 1) := by decide +kernel
theorem dX11_isLetter_0 : decode cX11_isLetter 0 = .ok (.iload_n 1, 1) := by decide +kernel
theorem dX11_isLetter_1 : decode cX11_isLetter 1 = .ok (.aload_n 0, 1) := by decide +kernel
theorem dX11_isLetter_2 : decode cX11_isLetter 2 = .ok (.getfield 79, 3) := by decide +kernel
theorem dX11_isLetter_5 : decode cX11_isLetter 5 = .ok (.if_icmp .ge 29, 3) := by decide +kernel
theorem dX11_isLetter_34 : decode cX11_isLetter 34 = .ok (.iconst 0, 1) := by decide +kernel
theorem dX11_isLetter_35 : decode cX11_isLetter 35 = .ok (.ireturn, 1) := by decide +kernel
theorem dX11_isWord_0 : decode cX11_isWord 0 = .ok (.aload_n 0, 1) := by decide +kernel
theorem dX11_isWord_1 : decode cX11_isWord 1 = .ok (.invokevirtual 93, 3) := by decide +kernel
theorem dX11_isWord_4 : decode cX11_isWord 4 = .ok (.pop, 1) := by decide +kernel
theorem dX11_isWord_5 : decode cX11_isWord 5 = .ok (.lconst 0, 1) := by decide +kernel
theorem dX11_isWord_6 : decode cX11_isWord 6 = .ok (.lstore_n 3, 1) := by decide +kernel
theorem dX11_isWord_7 : decode cX11_isWord 7 = .ok (.iconst 0, 1) := by decide +kernel
theorem dX11_isWord_8 : decode cX11_isWord 8 = .ok (.istore 5, 2) := by decide +kernel
theorem dX11_isWord_10 : decode cX11_isWord 10 = .ok (.aload_n 0, 1) := by decide +kernel
theorem dX11_isWord_11 : decode cX11_isWord 11 = .ok (.aload_n 0, 1) := by decide +kernel
theorem dX11_isWord_12 : decode cX11_isWord 12 = .ok (.getfield 90, 3) := by decide +kernel
theorem dX11_isWord_15 : decode cX11_isWord 15 = .ok (.iload 5, 2) := by decide +kernel
theorem dX11_isWord_17 : decode cX11_isWord 17 = .ok (.iadd, 1) := by decide +kernel
theorem dX11_isWord_18 : decode cX11_isWord 18 = .ok (.invokevirtual 97, 3) := by decide +kernel
theorem dX11_isWord_21 : decode cX11_isWord 21 = .ok (.ifCond .eq 35, 3) := by decide +kernel
theorem dX11_isWord_56 : decode cX11_isWord 56 = .ok (.iload 5, 2) := by decide +kernel
theorem dX11_isWord_58 : decode cX11_isWord 58 = .ok (.ifCond .le 20, 3) := by decide +kernel
theorem dX11_isWord_78 : decode cX11_isWord 78 = .ok (.iconst 0, 1) := by decide +kernel
theorem dX11_isWord_79 : decode cX11_isWord 79 = .ok (.ireturn, 1) := by decide +kernel
theorem dX11_fails_0 : decode cX11_fails 0 = .ok (.aload_n 0, 1) := by decide +kernel
theorem dX11_fails_1 : decode cX11_fails 1 = .ok (.getfield 87, 3) := by decide +kernel
theorem dX11_fails_4 : decode cX11_fails 4 = .ok (.ifCond .ne 15, 3) := by decide +kernel
theorem dX11_fails_7 : decode cX11_fails 7 = .ok (.aload_n 0, 1) := by decide +kernel
theorem dX11_fails_8 : decode cX11_fails 8 = .ok (.iconst 1, 1) := by decide +kernel
theorem dX11_fails_9 : decode cX11_fails 9 = .ok (.bipush 8, 2) := by decide +kernel
theorem dX11_fails_11 : decode cX11_fails 11 = .ok (.iload_n 2, 1) := by decide +kernel
theorem dX11_fails_12 : decode cX11_fails 12 = .ok (.imul, 1) := by decide +kernel
theorem dX11_fails_13 : decode cX11_fails 13 = .ok (.iadd, 1) := by decide +kernel
theorem dX11_fails_14 : decode cX11_fails 14 = .ok (.iload_n 1, 1) := by decide +kernel
theorem dX11_fails_15 : decode cX11_fails 15 = .ok (.iadd, 1) := by decide +kernel
theorem dX11_fails_16 : decode cX11_fails 16 = .ok (.putfield 87, 3) := by decide +kernel
theorem dX11_fails_19 : decode cX11_fails 19 = .ok (.iconst 0, 1) := by decide +kernel
theorem dX11_fails_20 : decode cX11_fails 20 = .ok (.ireturn, 1) := by decide +kernel
theorem dX11_clauseHere_0 : decode cX11_clauseHere 0 = .ok (.aload_n 0, 1) := by decide +kernel
theorem dX11_clauseHere_1 : decode cX11_clauseHere 1 = .ok (.invokevirtual 93, 3) := by decide +kernel
theorem dX11_clauseHere_4 : decode cX11_clauseHere 4 = .ok (.pop, 1) := by decide +kernel
theorem dX11_clauseHere_5 : decode cX11_clauseHere 5 = .ok (.aload_n 0, 1) := by decide +kernel
theorem dX11_clauseHere_6 : decode cX11_clauseHere 6 = .ok (.getfield 90, 3) := by decide +kernel
theorem dX11_clauseHere_9 : decode cX11_clauseHere 9 = .ok (.istore_n 1, 1) := by decide +kernel
theorem dX11_clauseHere_10 : decode cX11_clauseHere 10 = .ok (.aload_n 0, 1) := by decide +kernel
theorem dX11_clauseHere_11 : decode cX11_clauseHere 11 = .ok (.ldc2_w 216, 3) := by decide +kernel
theorem dX11_clauseHere_14 : decode cX11_clauseHere 14 = .ok (.invokevirtual 101, 3) := by decide +kernel
theorem dX11_clauseHere_17 : decode cX11_clauseHere 17 = .ok (.ifCond .eq 7, 3) := by decide +kernel
theorem dX11_clauseHere_24 : decode cX11_clauseHere 24 = .ok (.aload_n 0, 1) := by decide +kernel
theorem dX11_clauseHere_25 : decode cX11_clauseHere 25 = .ok (.ldc2_w 218, 3) := by decide +kernel
theorem dX11_clauseHere_28 : decode cX11_clauseHere 28 = .ok (.invokevirtual 101, 3) := by decide +kernel
theorem dX11_clauseHere_31 : decode cX11_clauseHere 31 = .ok (.ifCond .eq 7, 3) := by decide +kernel
theorem dX11_clauseHere_38 : decode cX11_clauseHere 38 = .ok (.aload_n 0, 1) := by decide +kernel
theorem dX11_clauseHere_39 : decode cX11_clauseHere 39 = .ok (.ldc2_w 220, 3) := by decide +kernel
theorem dX11_clauseHere_42 : decode cX11_clauseHere 42 = .ok (.invokevirtual 101, 3) := by decide +kernel
theorem dX11_clauseHere_45 : decode cX11_clauseHere 45 = .ok (.ifCond .eq 7, 3) := by decide +kernel
theorem dX11_clauseHere_52 : decode cX11_clauseHere 52 = .ok (.aload_n 0, 1) := by decide +kernel
theorem dX11_clauseHere_53 : decode cX11_clauseHere 53 = .ok (.ldc2_w 222, 3) := by decide +kernel
theorem dX11_clauseHere_56 : decode cX11_clauseHere 56 = .ok (.invokevirtual 101, 3) := by decide +kernel
theorem dX11_clauseHere_59 : decode cX11_clauseHere 59 = .ok (.ifCond .eq 7, 3) := by decide +kernel
theorem dX11_clauseHere_66 : decode cX11_clauseHere 66 = .ok (.aload_n 0, 1) := by decide +kernel
theorem dX11_clauseHere_67 : decode cX11_clauseHere 67 = .ok (.ldc2_w 224, 3) := by decide +kernel
theorem dX11_clauseHere_70 : decode cX11_clauseHere 70 = .ok (.invokevirtual 101, 3) := by decide +kernel
theorem dX11_clauseHere_73 : decode cX11_clauseHere 73 = .ok (.ifCond .eq 7, 3) := by decide +kernel
theorem dX11_clauseHere_80 : decode cX11_clauseHere 80 = .ok (.iconst (-1), 1) := by decide +kernel
theorem dX11_clauseHere_81 : decode cX11_clauseHere 81 = .ok (.istore_n 2, 1) := by decide +kernel
theorem dX11_clauseHere_82 : decode cX11_clauseHere 82 = .ok (.iload_n 2, 1) := by decide +kernel
theorem dX11_clauseHere_83 : decode cX11_clauseHere 83 = .ok (.ifCond .ge 10, 3) := by decide +kernel
theorem dX11_clauseHere_86 : decode cX11_clauseHere 86 = .ok (.aload_n 0, 1) := by decide +kernel
theorem dX11_clauseHere_87 : decode cX11_clauseHere 87 = .ok (.iconst 0, 1) := by decide +kernel
theorem dX11_clauseHere_88 : decode cX11_clauseHere 88 = .ok (.iload_n 1, 1) := by decide +kernel
theorem dX11_clauseHere_89 : decode cX11_clauseHere 89 = .ok (.invokevirtual 111, 3) := by decide +kernel
theorem dX11_clauseHere_92 : decode cX11_clauseHere 92 = .ok (.ireturn, 1) := by decide +kernel
theorem dX11_four_0 : decode cX11_four 0 = .ok (.bipush 24, 2) := by decide +kernel
theorem dX11_four_2 : decode cX11_four 2 = .ok (.istore_n 2, 1) := by decide +kernel
theorem dX11_four_3 : decode cX11_four 3 = .ok (.iload_n 2, 1) := by decide +kernel
theorem dX11_four_4 : decode cX11_four 4 = .ok (.ifCond .lt 32, 3) := by decide +kernel
theorem dX11_four_7 : decode cX11_four 7 = .ok (.aload_n 0, 1) := by decide +kernel
theorem dX11_four_8 : decode cX11_four 8 = .ok (.getfield 7, 3) := by decide +kernel
theorem dX11_four_11 : decode cX11_four 11 = .ok (.aload_n 0, 1) := by decide +kernel
theorem dX11_four_12 : decode cX11_four 12 = .ok (.getfield 79, 3) := by decide +kernel
theorem dX11_four_15 : decode cX11_four 15 = .ok (.iload_n 1, 1) := by decide +kernel
theorem dX11_four_16 : decode cX11_four 16 = .ok (.iload_n 2, 1) := by decide +kernel
theorem dX11_four_17 : decode cX11_four 17 = .ok (.ishr, 1) := by decide +kernel
theorem dX11_four_18 : decode cX11_four 18 = .ok (.i2b, 1) := by decide +kernel
theorem dX11_four_19 : decode cX11_four 19 = .ok (.bastore, 1) := by decide +kernel
theorem dX11_four_20 : decode cX11_four 20 = .ok (.aload_n 0, 1) := by decide +kernel
theorem dX11_four_21 : decode cX11_four 21 = .ok (.dup, 1) := by decide +kernel
theorem dX11_four_22 : decode cX11_four 22 = .ok (.getfield 79, 3) := by decide +kernel
theorem dX11_four_25 : decode cX11_four 25 = .ok (.iconst 1, 1) := by decide +kernel
theorem dX11_four_26 : decode cX11_four 26 = .ok (.iadd, 1) := by decide +kernel
theorem dX11_four_27 : decode cX11_four 27 = .ok (.putfield 79, 3) := by decide +kernel
theorem dX11_four_30 : decode cX11_four 30 = .ok (.iinc 2 (-8), 3) := by decide +kernel
theorem dX11_four_33 : decode cX11_four 33 = .ok (.goto (-30), 3) := by decide +kernel
theorem dX11_four_36 : decode cX11_four 36 = .ok (.return_, 1) := by decide +kernel
theorem dX11_image_23 : decode cX11_image 23 = .ok (.iload_n 2, 1) := by decide +kernel
theorem dX11_image_24 : decode cX11_image 24 = .ok (.sipush 360, 3) := by decide +kernel
theorem dX11_image_27 : decode cX11_image 27 = .ok (.if_icmp .ge 27, 3) := by decide +kernel
theorem dX11_image_30 : decode cX11_image 30 = .ok (.aload_n 0, 1) := by decide +kernel
theorem dX11_image_31 : decode cX11_image 31 = .ok (.getfield 72, 3) := by decide +kernel
theorem dX11_image_34 : decode cX11_image 34 = .ok (.sipush 360, 3) := by decide +kernel
theorem dX11_image_37 : decode cX11_image 37 = .ok (.iload_n 1, 1) := by decide +kernel
theorem dX11_image_38 : decode cX11_image 38 = .ok (.imul, 1) := by decide +kernel
theorem dX11_image_39 : decode cX11_image 39 = .ok (.iload_n 2, 1) := by decide +kernel
theorem dX11_image_40 : decode cX11_image 40 = .ok (.iadd, 1) := by decide +kernel
theorem dX11_image_41 : decode cX11_image 41 = .ok (.aload_n 0, 1) := by decide +kernel
theorem dX11_image_42 : decode cX11_image 42 = .ok (.getfield 39, 3) := by decide +kernel
theorem dX11_image_45 : decode cX11_image 45 = .ok (.iload_n 2, 1) := by decide +kernel
theorem dX11_image_46 : decode cX11_image 46 = .ok (.iaload, 1) := by decide +kernel
theorem dX11_image_47 : decode cX11_image 47 = .ok (.iastore, 1) := by decide +kernel
theorem dX11_image_48 : decode cX11_image 48 = .ok (.iinc 2 1, 3) := by decide +kernel
theorem dX11_image_51 : decode cX11_image 51 = .ok (.goto (-28), 3) := by decide +kernel
theorem dX11_node_0 : decode cX11_node 0 = .ok (.aload_n 0, 1) := by decide +kernel
theorem dX11_node_1 : decode cX11_node 1 = .ok (.getfield 39, 3) := by decide +kernel
theorem dX11_node_4 : decode cX11_node 4 = .ok (.iconst 0, 1) := by decide +kernel
theorem dX11_node_5 : decode cX11_node 5 = .ok (.iaload, 1) := by decide +kernel
theorem dX11_node_6 : decode cX11_node 6 = .ok (.bipush 12, 2) := by decide +kernel
theorem dX11_node_8 : decode cX11_node 8 = .ok (.if_icmp .eq 39, 3) := by decide +kernel
theorem dX11_node_11 : decode cX11_node 11 = .ok (.iload_n 1, 1) := by decide +kernel
theorem dX11_node_12 : decode cX11_node 12 = .ok (.i2l, 1) := by decide +kernel
theorem dX11_node_13 : decode cX11_node 13 = .ok (.lconst 0, 1) := by decide +kernel
theorem dX11_node_14 : decode cX11_node 14 = .ok (.ldc2_w 261, 3) := by decide +kernel
theorem dX11_node_17 : decode cX11_node 17 = .ok (.invokestatic 118, 3) := by decide +kernel
theorem dX11_node_20 : decode cX11_node 20 = .ok (.ifCond .eq 27, 3) := by decide +kernel
theorem dX11_node_47 : decode cX11_node 47 = .ok (.iconst (-1), 1) := by decide +kernel
theorem dX11_node_48 : decode cX11_node 48 = .ok (.ireturn, 1) := by decide +kernel
theorem dX11_node_23 : decode cX11_node 23 = .ok (.iload_n 2, 1) := by decide +kernel
theorem dX11_node_24 : decode cX11_node 24 = .ok (.i2l, 1) := by decide +kernel
theorem dX11_node_25 : decode cX11_node 25 = .ok (.lconst 0, 1) := by decide +kernel
theorem dX11_node_26 : decode cX11_node 26 = .ok (.ldc2_w 263, 3) := by decide +kernel
theorem dX11_node_29 : decode cX11_node 29 = .ok (.invokestatic 118, 3) := by decide +kernel
theorem dX11_node_32 : decode cX11_node 32 = .ok (.ifCond .eq 15, 3) := by decide +kernel
theorem dX11_node_35 : decode cX11_node 35 = .ok (.iload_n 3, 1) := by decide +kernel
theorem dX11_node_36 : decode cX11_node 36 = .ok (.i2l, 1) := by decide +kernel
theorem dX11_node_37 : decode cX11_node 37 = .ok (.lconst 0, 1) := by decide +kernel
theorem dX11_node_38 : decode cX11_node 38 = .ok (.ldc2_w 265, 3) := by decide +kernel
theorem dX11_node_41 : decode cX11_node 41 = .ok (.invokestatic 118, 3) := by decide +kernel
theorem dX11_node_44 : decode cX11_node 44 = .ok (.ifCond .ne 5, 3) := by decide +kernel
theorem dX11_node_49 : decode cX11_node 49 = .ok (.bipush 20, 2) := by decide +kernel
theorem dX11_node_51 : decode cX11_node 51 = .ok (.iconst 4, 1) := by decide +kernel
theorem dX11_node_52 : decode cX11_node 52 = .ok (.aload_n 0, 1) := by decide +kernel
theorem dX11_node_53 : decode cX11_node 53 = .ok (.getfield 39, 3) := by decide +kernel
theorem dX11_node_56 : decode cX11_node 56 = .ok (.iconst 0, 1) := by decide +kernel
theorem dX11_node_57 : decode cX11_node 57 = .ok (.iaload, 1) := by decide +kernel
theorem dX11_node_58 : decode cX11_node 58 = .ok (.imul, 1) := by decide +kernel
theorem dX11_node_59 : decode cX11_node 59 = .ok (.iadd, 1) := by decide +kernel
theorem dX11_node_60 : decode cX11_node 60 = .ok (.istore 4, 2) := by decide +kernel
theorem dX11_node_62 : decode cX11_node 62 = .ok (.aload_n 0, 1) := by decide +kernel
theorem dX11_node_63 : decode cX11_node 63 = .ok (.getfield 39, 3) := by decide +kernel
theorem dX11_node_66 : decode cX11_node 66 = .ok (.iload 4, 2) := by decide +kernel
theorem dX11_node_68 : decode cX11_node 68 = .ok (.iload_n 1, 1) := by decide +kernel
theorem dX11_node_69 : decode cX11_node 69 = .ok (.iastore, 1) := by decide +kernel
theorem dX11_node_70 : decode cX11_node 70 = .ok (.aload_n 0, 1) := by decide +kernel
theorem dX11_node_71 : decode cX11_node 71 = .ok (.getfield 39, 3) := by decide +kernel
theorem dX11_node_74 : decode cX11_node 74 = .ok (.iload 4, 2) := by decide +kernel
theorem dX11_node_76 : decode cX11_node 76 = .ok (.iconst 1, 1) := by decide +kernel
theorem dX11_node_77 : decode cX11_node 77 = .ok (.iadd, 1) := by decide +kernel
theorem dX11_node_78 : decode cX11_node 78 = .ok (.iload_n 2, 1) := by decide +kernel
theorem dX11_node_79 : decode cX11_node 79 = .ok (.iastore, 1) := by decide +kernel
theorem dX11_node_80 : decode cX11_node 80 = .ok (.aload_n 0, 1) := by decide +kernel
theorem dX11_node_81 : decode cX11_node 81 = .ok (.getfield 39, 3) := by decide +kernel
theorem dX11_node_84 : decode cX11_node 84 = .ok (.iload 4, 2) := by decide +kernel
theorem dX11_node_86 : decode cX11_node 86 = .ok (.iconst 2, 1) := by decide +kernel
theorem dX11_node_87 : decode cX11_node 87 = .ok (.iadd, 1) := by decide +kernel
theorem dX11_node_88 : decode cX11_node 88 = .ok (.iload_n 3, 1) := by decide +kernel
theorem dX11_node_89 : decode cX11_node 89 = .ok (.iastore, 1) := by decide +kernel
theorem dX11_node_90 : decode cX11_node 90 = .ok (.aload_n 0, 1) := by decide +kernel
theorem dX11_node_91 : decode cX11_node 91 = .ok (.getfield 39, 3) := by decide +kernel
theorem dX11_node_94 : decode cX11_node 94 = .ok (.iload 4, 2) := by decide +kernel
theorem dX11_node_96 : decode cX11_node 96 = .ok (.iconst 3, 1) := by decide +kernel
theorem dX11_node_97 : decode cX11_node 97 = .ok (.iadd, 1) := by decide +kernel
theorem dX11_node_98 : decode cX11_node 98 = .ok (.iconst 0, 1) := by decide +kernel
theorem dX11_node_99 : decode cX11_node 99 = .ok (.iastore, 1) := by decide +kernel
theorem dX11_node_100 : decode cX11_node 100 = .ok (.aload_n 0, 1) := by decide +kernel
theorem dX11_node_101 : decode cX11_node 101 = .ok (.getfield 39, 3) := by decide +kernel
theorem dX11_node_104 : decode cX11_node 104 = .ok (.iconst 0, 1) := by decide +kernel
theorem dX11_node_105 : decode cX11_node 105 = .ok (.dup2, 1) := by decide +kernel
theorem dX11_node_106 : decode cX11_node 106 = .ok (.iaload, 1) := by decide +kernel
theorem dX11_node_107 : decode cX11_node 107 = .ok (.iconst 1, 1) := by decide +kernel
theorem dX11_node_108 : decode cX11_node 108 = .ok (.iadd, 1) := by decide +kernel
theorem dX11_node_109 : decode cX11_node 109 = .ok (.iastore, 1) := by decide +kernel
theorem dX11_node_110 : decode cX11_node 110 = .ok (.aload_n 0, 1) := by decide +kernel
theorem dX11_node_111 : decode cX11_node 111 = .ok (.getfield 39, 3) := by decide +kernel
theorem dX11_node_114 : decode cX11_node 114 = .ok (.iconst 0, 1) := by decide +kernel
theorem dX11_node_115 : decode cX11_node 115 = .ok (.iaload, 1) := by decide +kernel
theorem dX11_node_116 : decode cX11_node 116 = .ok (.iconst 1, 1) := by decide +kernel
theorem dX11_node_117 : decode cX11_node 117 = .ok (.isub, 1) := by decide +kernel
theorem dX11_node_118 : decode cX11_node 118 = .ok (.ireturn, 1) := by decide +kernel
theorem dX11_pass_0 : decode cX11_pass 0 = .ok (.aload_n 0, 1) := by decide +kernel
theorem dX11_pass_1 : decode cX11_pass 1 = .ok (.getfield 39, 3) := by decide +kernel
theorem dX11_pass_4 : decode cX11_pass 4 = .ok (.iconst 1, 1) := by decide +kernel
theorem dX11_pass_5 : decode cX11_pass 5 = .ok (.iaload, 1) := by decide +kernel
theorem dX11_pass_6 : decode cX11_pass 6 = .ok (.bipush 20, 2) := by decide +kernel
theorem dX11_pass_8 : decode cX11_pass 8 = .ok (.if_icmp .eq 62, 3) := by decide +kernel
theorem dX11_pass_11 : decode cX11_pass 11 = .ok (.aload_n 0, 1) := by decide +kernel
theorem dX11_pass_12 : decode cX11_pass 12 = .ok (.iload_n 1, 1) := by decide +kernel
theorem dX11_pass_13 : decode cX11_pass 13 = .ok (.invokevirtual 267, 3) := by decide +kernel
theorem dX11_pass_16 : decode cX11_pass 16 = .ok (.ifCond .eq 54, 3) := by decide +kernel
theorem dX11_pass_70 : decode cX11_pass 70 = .ok (.iconst (-1), 1) := by decide +kernel
theorem dX11_pass_71 : decode cX11_pass 71 = .ok (.ireturn, 1) := by decide +kernel
theorem dX11_jar_0 : decode cX11_jar 0 = .ok (.aload_n 0, 1) := by decide +kernel
theorem dX11_jar_1 : decode cX11_jar 1 = .ok (.getfield 39, 3) := by decide +kernel
theorem dX11_jar_4 : decode cX11_jar 4 = .ok (.iconst 2, 1) := by decide +kernel
theorem dX11_jar_5 : decode cX11_jar 5 = .ok (.iaload, 1) := by decide +kernel
theorem dX11_jar_6 : decode cX11_jar 6 = .ok (.bipush 16, 2) := by decide +kernel
theorem dX11_jar_8 : decode cX11_jar 8 = .ok (.if_icmp .eq 61, 3) := by decide +kernel
theorem dX11_jar_11 : decode cX11_jar 11 = .ok (.aload_n 0, 1) := by decide +kernel
theorem dX11_jar_12 : decode cX11_jar 12 = .ok (.iload_n 1, 1) := by decide +kernel
theorem dX11_jar_13 : decode cX11_jar 13 = .ok (.invokevirtual 267, 3) := by decide +kernel
theorem dX11_jar_16 : decode cX11_jar 16 = .ok (.ifCond .eq 53, 3) := by decide +kernel
theorem dX11_jar_69 : decode cX11_jar 69 = .ok (.iconst (-1), 1) := by decide +kernel
theorem dX11_jar_70 : decode cX11_jar 70 = .ok (.ireturn, 1) := by decide +kernel
theorem dX11_month_0 : decode cX11_month 0 = .ok (.iload_n 1, 1) := by decide +kernel
theorem dX11_month_1 : decode cX11_month 1 = .ok (.i2l, 1) := by decide +kernel
theorem dX11_month_2 : decode cX11_month 2 = .ok (.lconst 0, 1) := by decide +kernel
theorem dX11_month_3 : decode cX11_month 3 = .ok (.ldc2_w 278, 3) := by decide +kernel
theorem dX11_month_6 : decode cX11_month 6 = .ok (.invokestatic 118, 3) := by decide +kernel
theorem dX11_month_9 : decode cX11_month 9 = .ok (.ifCond .ne 5, 3) := by decide +kernel
theorem dX11_month_14 : decode cX11_month 14 = .ok (.aload_n 0, 1) := by decide +kernel
theorem dX11_month_15 : decode cX11_month 15 = .ok (.getfield 39, 3) := by decide +kernel
theorem dX11_month_18 : decode cX11_month 18 = .ok (.bipush 6, 2) := by decide +kernel
theorem dX11_month_20 : decode cX11_month 20 = .ok (.iaload, 1) := by decide +kernel
theorem dX11_month_21 : decode cX11_month 21 = .ok (.istore_n 2, 1) := by decide +kernel
theorem dX11_month_22 : decode cX11_month 22 = .ok (.aload_n 0, 1) := by decide +kernel
theorem dX11_month_23 : decode cX11_month 23 = .ok (.getfield 39, 3) := by decide +kernel
theorem dX11_month_26 : decode cX11_month 26 = .ok (.bipush 6, 2) := by decide +kernel
theorem dX11_month_28 : decode cX11_month 28 = .ok (.iload_n 1, 1) := by decide +kernel
theorem dX11_month_29 : decode cX11_month 29 = .ok (.iastore, 1) := by decide +kernel
theorem dX11_month_30 : decode cX11_month 30 = .ok (.iload_n 2, 1) := by decide +kernel
theorem dX11_month_31 : decode cX11_month 31 = .ok (.ireturn, 1) := by decide +kernel
theorem dX11_month_12 : decode cX11_month 12 = .ok (.iconst (-1), 1) := by decide +kernel
theorem dX11_month_13 : decode cX11_month 13 = .ok (.ireturn, 1) := by decide +kernel
theorem dX11_seed_0 : decode cX11_seed 0 = .ok (.iload_n 1, 1) := by decide +kernel
theorem dX11_seed_1 : decode cX11_seed 1 = .ok (.ifCond .ge 5, 3) := by decide +kernel
theorem dX11_seed_6 : decode cX11_seed 6 = .ok (.aload_n 0, 1) := by decide +kernel
theorem dX11_seed_7 : decode cX11_seed 7 = .ok (.getfield 39, 3) := by decide +kernel
theorem dX11_seed_10 : decode cX11_seed 10 = .ok (.bipush 7, 2) := by decide +kernel
theorem dX11_seed_12 : decode cX11_seed 12 = .ok (.iaload, 1) := by decide +kernel
theorem dX11_seed_13 : decode cX11_seed 13 = .ok (.istore_n 2, 1) := by decide +kernel
theorem dX11_seed_14 : decode cX11_seed 14 = .ok (.aload_n 0, 1) := by decide +kernel
theorem dX11_seed_15 : decode cX11_seed 15 = .ok (.getfield 39, 3) := by decide +kernel
theorem dX11_seed_18 : decode cX11_seed 18 = .ok (.bipush 7, 2) := by decide +kernel
theorem dX11_seed_20 : decode cX11_seed 20 = .ok (.iload_n 1, 1) := by decide +kernel
theorem dX11_seed_21 : decode cX11_seed 21 = .ok (.iastore, 1) := by decide +kernel
theorem dX11_seed_22 : decode cX11_seed 22 = .ok (.iload_n 2, 1) := by decide +kernel
theorem dX11_seed_23 : decode cX11_seed 23 = .ok (.ireturn, 1) := by decide +kernel
theorem dX11_seed_4 : decode cX11_seed 4 = .ok (.iconst (-1), 1) := by decide +kernel
theorem dX11_seed_5 : decode cX11_seed 5 = .ok (.ireturn, 1) := by decide +kernel
theorem dX11_feed_0 : decode cX11_feed 0 = .ok (.aload_n 0, 1) := by decide +kernel
theorem dX11_feed_1 : decode cX11_feed 1 = .ok (.getfield 79, 3) := by decide +kernel
theorem dX11_feed_4 : decode cX11_feed 4 = .ok (.bipush 20, 2) := by decide +kernel
theorem dX11_feed_6 : decode cX11_feed 6 = .ok (.iadd, 1) := by decide +kernel
theorem dX11_feed_7 : decode cX11_feed 7 = .ok (.sipush 400, 3) := by decide +kernel
theorem dX11_feed_10 : decode cX11_feed 10 = .ok (.if_icmp .le 5, 3) := by decide +kernel
theorem dX11_feed_15 : decode cX11_feed 15 = .ok (.aload_n 0, 1) := by decide +kernel
theorem dX11_feed_16 : decode cX11_feed 16 = .ok (.iload_n 1, 1) := by decide +kernel
theorem dX11_feed_17 : decode cX11_feed 17 = .ok (.invokevirtual 83, 3) := by decide +kernel
theorem dX11_feed_20 : decode cX11_feed 20 = .ok (.aload_n 0, 1) := by decide +kernel
theorem dX11_feed_21 : decode cX11_feed 21 = .ok (.iload_n 2, 1) := by decide +kernel
theorem dX11_feed_22 : decode cX11_feed 22 = .ok (.invokevirtual 83, 3) := by decide +kernel
theorem dX11_feed_25 : decode cX11_feed 25 = .ok (.aload_n 0, 1) := by decide +kernel
theorem dX11_feed_26 : decode cX11_feed 26 = .ok (.iload_n 3, 1) := by decide +kernel
theorem dX11_feed_27 : decode cX11_feed 27 = .ok (.invokevirtual 83, 3) := by decide +kernel
theorem dX11_feed_30 : decode cX11_feed 30 = .ok (.aload_n 0, 1) := by decide +kernel
theorem dX11_feed_31 : decode cX11_feed 31 = .ok (.iload 4, 2) := by decide +kernel
theorem dX11_feed_33 : decode cX11_feed 33 = .ok (.invokevirtual 83, 3) := by decide +kernel
theorem dX11_feed_36 : decode cX11_feed 36 = .ok (.aload_n 0, 1) := by decide +kernel
theorem dX11_feed_37 : decode cX11_feed 37 = .ok (.iload 5, 2) := by decide +kernel
theorem dX11_feed_39 : decode cX11_feed 39 = .ok (.invokevirtual 83, 3) := by decide +kernel
theorem dX11_feed_42 : decode cX11_feed 42 = .ok (.aload_n 0, 1) := by decide +kernel
theorem dX11_feed_43 : decode cX11_feed 43 = .ok (.getfield 79, 3) := by decide +kernel
theorem dX11_feed_46 : decode cX11_feed 46 = .ok (.ireturn, 1) := by decide +kernel
theorem dX11_end_0 : decode cX11_end 0 = .ok (.iload_n 1, 1) := by decide +kernel
theorem dX11_end_1 : decode cX11_end 1 = .ok (.ifCond .lt 11, 3) := by decide +kernel
theorem dX11_end_12 : decode cX11_end 12 = .ok (.iconst (-1), 1) := by decide +kernel
theorem dX11_end_13 : decode cX11_end 13 = .ok (.ireturn, 1) := by decide +kernel
theorem dX11_end_4 : decode cX11_end 4 = .ok (.iload_n 1, 1) := by decide +kernel
theorem dX11_end_5 : decode cX11_end 5 = .ok (.aload_n 0, 1) := by decide +kernel
theorem dX11_end_6 : decode cX11_end 6 = .ok (.getfield 79, 3) := by decide +kernel
theorem dX11_end_9 : decode cX11_end 9 = .ok (.if_icmp .le 5, 3) := by decide +kernel
theorem dX11_end_14 : decode cX11_end 14 = .ok (.aload_n 0, 1) := by decide +kernel
theorem dX11_end_15 : decode cX11_end 15 = .ok (.iload_n 1, 1) := by decide +kernel
theorem dX11_end_16 : decode cX11_end 16 = .ok (.putfield 79, 3) := by decide +kernel
theorem dX11_end_19 : decode cX11_end 19 = .ok (.iload_n 1, 1) := by decide +kernel
theorem dX11_end_20 : decode cX11_end 20 = .ok (.ireturn, 1) := by decide +kernel
theorem dX11_law_0 : decode cX11_law 0 = .ok (.aload_n 0, 1) := by decide +kernel
theorem dX11_law_1 : decode cX11_law 1 = .ok (.getfield 232, 3) := by decide +kernel
theorem dX11_law_4 : decode cX11_law 4 = .ok (.bipush 6, 2) := by decide +kernel
theorem dX11_law_6 : decode cX11_law 6 = .ok (.if_icmp .ne 5, 3) := by decide +kernel
theorem dX11_law_11 : decode cX11_law 11 = .ok (.aload_n 0, 1) := by decide +kernel
theorem dX11_law_12 : decode cX11_law 12 = .ok (.aload_n 0, 1) := by decide +kernel
theorem dX11_law_13 : decode cX11_law 13 = .ok (.getfield 232, 3) := by decide +kernel
theorem dX11_law_16 : decode cX11_law 16 = .ok (.putfield 144, 3) := by decide +kernel
theorem dX11_law_19 : decode cX11_law 19 = .ok (.aload_n 0, 1) := by decide +kernel
theorem dX11_law_20 : decode cX11_law 20 = .ok (.getfield 17, 3) := by decide +kernel
theorem dX11_law_23 : decode cX11_law 23 = .ok (.aload_n 0, 1) := by decide +kernel
theorem dX11_law_24 : decode cX11_law 24 = .ok (.getfield 144, 3) := by decide +kernel
theorem dX11_law_27 : decode cX11_law 27 = .ok (.iconst 0, 1) := by decide +kernel
theorem dX11_law_28 : decode cX11_law 28 = .ok (.iastore, 1) := by decide +kernel
theorem dX11_law_29 : decode cX11_law 29 = .ok (.aload_n 0, 1) := by decide +kernel
theorem dX11_law_30 : decode cX11_law 30 = .ok (.getfield 23, 3) := by decide +kernel
theorem dX11_law_33 : decode cX11_law 33 = .ok (.aload_n 0, 1) := by decide +kernel
theorem dX11_law_34 : decode cX11_law 34 = .ok (.getfield 144, 3) := by decide +kernel
theorem dX11_law_37 : decode cX11_law 37 = .ok (.iconst 0, 1) := by decide +kernel
theorem dX11_law_38 : decode cX11_law 38 = .ok (.iastore, 1) := by decide +kernel
theorem dX11_law_39 : decode cX11_law 39 = .ok (.aload_n 0, 1) := by decide +kernel
theorem dX11_law_40 : decode cX11_law 40 = .ok (.getfield 26, 3) := by decide +kernel
theorem dX11_law_43 : decode cX11_law 43 = .ok (.aload_n 0, 1) := by decide +kernel
theorem dX11_law_44 : decode cX11_law 44 = .ok (.getfield 144, 3) := by decide +kernel
theorem dX11_law_47 : decode cX11_law 47 = .ok (.iconst (-1), 1) := by decide +kernel
theorem dX11_law_48 : decode cX11_law 48 = .ok (.iastore, 1) := by decide +kernel
theorem dX11_law_49 : decode cX11_law 49 = .ok (.aload_n 0, 1) := by decide +kernel
theorem dX11_law_50 : decode cX11_law 50 = .ok (.iconst 0, 1) := by decide +kernel
theorem dX11_law_51 : decode cX11_law 51 = .ok (.putfield 226, 3) := by decide +kernel
theorem dX11_law_54 : decode cX11_law 54 = .ok (.aload_n 0, 1) := by decide +kernel
theorem dX11_law_55 : decode cX11_law 55 = .ok (.iconst 0, 1) := by decide +kernel
theorem dX11_law_56 : decode cX11_law 56 = .ok (.putfield 90, 3) := by decide +kernel
theorem dX11_law_59 : decode cX11_law 59 = .ok (.aload_n 0, 1) := by decide +kernel
theorem dX11_law_60 : decode cX11_law 60 = .ok (.iconst 0, 1) := by decide +kernel
theorem dX11_law_61 : decode cX11_law 61 = .ok (.putfield 87, 3) := by decide +kernel
theorem dX11_law_64 : decode cX11_law 64 = .ok (.aload_n 0, 1) := by decide +kernel
theorem dX11_law_65 : decode cX11_law 65 = .ok (.iconst 0, 1) := by decide +kernel
theorem dX11_law_66 : decode cX11_law 66 = .ok (.putfield 147, 3) := by decide +kernel
theorem dX11_law_69 : decode cX11_law 69 = .ok (.aload_n 0, 1) := by decide +kernel
theorem dX11_law_70 : decode cX11_law 70 = .ok (.invokevirtual 235, 3) := by decide +kernel
theorem dX11_law_73 : decode cX11_law 73 = .ok (.istore_n 1, 1) := by decide +kernel
theorem dX11_law_74 : decode cX11_law 74 = .ok (.iload_n 1, 1) := by decide +kernel
theorem dX11_law_75 : decode cX11_law 75 = .ok (.ifCond .eq 30, 3) := by decide +kernel
theorem dX11_law_105 : decode cX11_law 105 = .ok (.iload_n 1, 1) := by decide +kernel
theorem dX11_law_106 : decode cX11_law 106 = .ok (.ifCond .eq 21, 3) := by decide +kernel
theorem dX11_law_127 : decode cX11_law 127 = .ok (.aload_n 0, 1) := by decide +kernel
theorem dX11_law_128 : decode cX11_law 128 = .ok (.iconst 0, 1) := by decide +kernel
theorem dX11_law_129 : decode cX11_law 129 = .ok (.putfield 79, 3) := by decide +kernel
theorem dX11_law_132 : decode cX11_law 132 = .ok (.aload_n 0, 1) := by decide +kernel
theorem dX11_law_133 : decode cX11_law 133 = .ok (.getfield 87, 3) := by decide +kernel
theorem dX11_law_136 : decode cX11_law 136 = .ok (.ifCond .le 11, 3) := by decide +kernel
theorem dX11_law_139 : decode cX11_law 139 = .ok (.bipush (-2), 2) := by decide +kernel
theorem dX11_law_141 : decode cX11_law 141 = .ok (.aload_n 0, 1) := by decide +kernel
theorem dX11_law_142 : decode cX11_law 142 = .ok (.getfield 87, 3) := by decide +kernel
theorem dX11_law_145 : decode cX11_law 145 = .ok (.isub, 1) := by decide +kernel
theorem dX11_law_146 : decode cX11_law 146 = .ok (.ireturn, 1) := by decide +kernel
theorem dX11_fill_0 : decode cX11_fill 0 = .ok (.aload_n 0, 1) := by decide +kernel
theorem dX11_fill_1 : decode cX11_fill 1 = .ok (.iload_n 1, 1) := by decide +kernel
theorem dX11_fill_2 : decode cX11_fill 2 = .ok (.invokevirtual 286, 3) := by decide +kernel
theorem dX11_fill_5 : decode cX11_fill 5 = .ok (.ifCond .eq 38, 3) := by decide +kernel
theorem dX11_fill_43 : decode cX11_fill 43 = .ok (.iconst (-1), 1) := by decide +kernel
theorem dX11_fill_44 : decode cX11_fill 44 = .ok (.ireturn, 1) := by decide +kernel
theorem dX11_pour_0 : decode cX11_pour 0 = .ok (.aload_n 0, 1) := by decide +kernel
theorem dX11_pour_1 : decode cX11_pour 1 = .ok (.iload_n 1, 1) := by decide +kernel
theorem dX11_pour_2 : decode cX11_pour 2 = .ok (.invokevirtual 286, 3) := by decide +kernel
theorem dX11_pour_5 : decode cX11_pour 5 = .ok (.ifCond .ne 5, 3) := by decide +kernel
theorem dX11_pour_8 : decode cX11_pour 8 = .ok (.iconst (-1), 1) := by decide +kernel
theorem dX11_pour_9 : decode cX11_pour 9 = .ok (.ireturn, 1) := by decide +kernel
theorem dX11_store_0 : decode cX11_store 0 = .ok (.aload_n 0, 1) := by decide +kernel
theorem dX11_store_1 : decode cX11_store 1 = .ok (.iload_n 1, 1) := by decide +kernel
theorem dX11_store_2 : decode cX11_store 2 = .ok (.invokevirtual 267, 3) := by decide +kernel
theorem dX11_store_5 : decode cX11_store 5 = .ok (.ifCond .eq 15, 3) := by decide +kernel
theorem dX11_store_20 : decode cX11_store 20 = .ok (.iconst (-1), 1) := by decide +kernel
theorem dX11_store_21 : decode cX11_store 21 = .ok (.ireturn, 1) := by decide +kernel
theorem dX11_leave_0 : decode cX11_leave 0 = .ok (.aload_n 0, 1) := by decide +kernel
theorem dX11_leave_1 : decode cX11_leave 1 = .ok (.iload_n 1, 1) := by decide +kernel
theorem dX11_leave_2 : decode cX11_leave 2 = .ok (.invokevirtual 286, 3) := by decide +kernel
theorem dX11_leave_5 : decode cX11_leave 5 = .ok (.ifCond .eq 25, 3) := by decide +kernel
theorem dX11_leave_30 : decode cX11_leave 30 = .ok (.iconst 0, 1) := by decide +kernel
theorem dX11_leave_31 : decode cX11_leave 31 = .ok (.ireturn, 1) := by decide +kernel
theorem dX11_tick_0 : decode cX11_tick 0 = .ok (.aload_n 0, 1) := by decide +kernel
theorem dX11_tick_1 : decode cX11_tick 1 = .ok (.iload_n 1, 1) := by decide +kernel
theorem dX11_tick_2 : decode cX11_tick 2 = .ok (.invokevirtual 363, 3) := by decide +kernel
theorem dX11_tick_5 : decode cX11_tick 5 = .ok (.ifCond .eq 28, 3) := by decide +kernel
theorem dX11_tick_33 : decode cX11_tick 33 = .ok (.iconst (-1), 1) := by decide +kernel
theorem dX11_tick_34 : decode cX11_tick 34 = .ok (.ireturn, 1) := by decide +kernel
theorem dX11_at_0 : decode cX11_at 0 = .ok (.aload_n 0, 1) := by decide +kernel
theorem dX11_at_1 : decode cX11_at 1 = .ok (.iload_n 1, 1) := by decide +kernel
theorem dX11_at_2 : decode cX11_at 2 = .ok (.invokevirtual 267, 3) := by decide +kernel
theorem dX11_at_5 : decode cX11_at 5 = .ok (.ifCond .eq 15, 3) := by decide +kernel
theorem dX11_at_20 : decode cX11_at 20 = .ok (.iconst (-1), 1) := by decide +kernel
theorem dX11_at_21 : decode cX11_at 21 = .ok (.ireturn, 1) := by decide +kernel
theorem dX11_of_0 : decode cX11_of 0 = .ok (.aload_n 0, 1) := by decide +kernel
theorem dX11_of_1 : decode cX11_of 1 = .ok (.iload_n 1, 1) := by decide +kernel
theorem dX11_of_2 : decode cX11_of 2 = .ok (.invokevirtual 280, 3) := by decide +kernel
theorem dX11_of_5 : decode cX11_of 5 = .ok (.ifCond .eq 15, 3) := by decide +kernel
theorem dX11_of_20 : decode cX11_of 20 = .ok (.bipush (-2), 2) := by decide +kernel
theorem dX11_of_22 : decode cX11_of 22 = .ok (.ireturn, 1) := by decide +kernel
theorem dX11_melt_0 : decode cX11_melt 0 = .ok (.aload_n 0, 1) := by decide +kernel
theorem dX11_melt_1 : decode cX11_melt 1 = .ok (.iload_n 1, 1) := by decide +kernel
theorem dX11_melt_2 : decode cX11_melt 2 = .ok (.invokevirtual 363, 3) := by decide +kernel
theorem dX11_melt_5 : decode cX11_melt 5 = .ok (.ifCond .eq 31, 3) := by decide +kernel
theorem dX11_melt_36 : decode cX11_melt 36 = .ok (.iconst (-1), 1) := by decide +kernel
theorem dX11_melt_37 : decode cX11_melt 37 = .ok (.ireturn, 1) := by decide +kernel
theorem dX11_lay_0 : decode cX11_lay 0 = .ok (.aload_n 0, 1) := by decide +kernel
theorem dX11_lay_1 : decode cX11_lay 1 = .ok (.getfield 39, 3) := by decide +kernel
theorem dX11_lay_4 : decode cX11_lay 4 = .ok (.bipush 8, 2) := by decide +kernel
theorem dX11_lay_6 : decode cX11_lay 6 = .ok (.iaload, 1) := by decide +kernel
theorem dX11_lay_7 : decode cX11_lay 7 = .ok (.ifCond .lt 23, 3) := by decide +kernel
theorem dX11_lay_30 : decode cX11_lay 30 = .ok (.iconst (-1), 1) := by decide +kernel
theorem dX11_lay_31 : decode cX11_lay 31 = .ok (.ireturn, 1) := by decide +kernel
theorem dX11_from_0 : decode cX11_from 0 = .ok (.aload_n 0, 1) := by decide +kernel
theorem dX11_from_1 : decode cX11_from 1 = .ok (.iload_n 1, 1) := by decide +kernel
theorem dX11_from_2 : decode cX11_from 2 = .ok (.invokevirtual 267, 3) := by decide +kernel
theorem dX11_from_5 : decode cX11_from 5 = .ok (.ifCond .ne 5, 3) := by decide +kernel
theorem dX11_from_8 : decode cX11_from 8 = .ok (.iconst 0, 1) := by decide +kernel
theorem dX11_from_9 : decode cX11_from 9 = .ok (.ireturn, 1) := by decide +kernel
theorem dX11_tried_0 : decode cX11_tried 0 = .ok (.aload_n 0, 1) := by decide +kernel
theorem dX11_tried_1 : decode cX11_tried 1 = .ok (.iload_n 1, 1) := by decide +kernel
theorem dX11_tried_2 : decode cX11_tried 2 = .ok (.iload_n 2, 1) := by decide +kernel
theorem dX11_tried_3 : decode cX11_tried 3 = .ok (.iload_n 3, 1) := by decide +kernel
theorem dX11_tried_4 : decode cX11_tried 4 = .ok (.iload 4, 2) := by decide +kernel
theorem dX11_tried_6 : decode cX11_tried 6 = .ok (.iload 5, 2) := by decide +kernel
theorem dX11_tried_8 : decode cX11_tried 8 = .ok (.invokevirtual 403, 3) := by decide +kernel
theorem dX11_tried_11 : decode cX11_tried 11 = .ok (.ifCond .eq 14, 3) := by decide +kernel
theorem dX11_tried_25 : decode cX11_tried 25 = .ok (.iconst (-1), 1) := by decide +kernel
theorem dX11_tried_26 : decode cX11_tried 26 = .ok (.ireturn, 1) := by decide +kernel
theorem dX11_best_0 : decode cX11_best 0 = .ok (.aload_n 0, 1) := by decide +kernel
theorem dX11_best_1 : decode cX11_best 1 = .ok (.iload_n 1, 1) := by decide +kernel
theorem dX11_best_2 : decode cX11_best 2 = .ok (.invokevirtual 363, 3) := by decide +kernel
theorem dX11_best_5 : decode cX11_best 5 = .ok (.ifCond .eq 57, 3) := by decide +kernel
theorem dX11_best_62 : decode cX11_best 62 = .ok (.iconst (-1), 1) := by decide +kernel
theorem dX11_best_63 : decode cX11_best 63 = .ok (.ireturn, 1) := by decide +kernel
theorem dX11_soonest_0 : decode cX11_soonest 0 = .ok (.aload_n 0, 1) := by decide +kernel
theorem dX11_soonest_1 : decode cX11_soonest 1 = .ok (.iload_n 1, 1) := by decide +kernel
theorem dX11_soonest_2 : decode cX11_soonest 2 = .ok (.invokevirtual 267, 3) := by decide +kernel
theorem dX11_soonest_5 : decode cX11_soonest 5 = .ok (.ifCond .eq 11, 3) := by decide +kernel
theorem dX11_soonest_16 : decode cX11_soonest 16 = .ok (.iconst (-1), 1) := by decide +kernel
theorem dX11_soonest_17 : decode cX11_soonest 17 = .ok (.ireturn, 1) := by decide +kernel
theorem dX11_nearest_0 : decode cX11_nearest 0 = .ok (.aload_n 0, 1) := by decide +kernel
theorem dX11_nearest_1 : decode cX11_nearest 1 = .ok (.iload_n 1, 1) := by decide +kernel
theorem dX11_nearest_2 : decode cX11_nearest 2 = .ok (.invokevirtual 267, 3) := by decide +kernel
theorem dX11_nearest_5 : decode cX11_nearest 5 = .ok (.ifCond .eq 15, 3) := by decide +kernel
theorem dX11_nearest_20 : decode cX11_nearest 20 = .ok (.iconst (-1), 1) := by decide +kernel
theorem dX11_nearest_21 : decode cX11_nearest 21 = .ok (.ireturn, 1) := by decide +kernel
theorem dX11_warmer_0 : decode cX11_warmer 0 = .ok (.aload_n 0, 1) := by decide +kernel
theorem dX11_warmer_1 : decode cX11_warmer 1 = .ok (.iload_n 1, 1) := by decide +kernel
theorem dX11_warmer_2 : decode cX11_warmer 2 = .ok (.iload_n 2, 1) := by decide +kernel
theorem dX11_warmer_3 : decode cX11_warmer 3 = .ok (.iload_n 3, 1) := by decide +kernel
theorem dX11_warmer_4 : decode cX11_warmer 4 = .ok (.iload 4, 2) := by decide +kernel
theorem dX11_warmer_6 : decode cX11_warmer 6 = .ok (.iload 5, 2) := by decide +kernel
theorem dX11_warmer_8 : decode cX11_warmer 8 = .ok (.invokevirtual 403, 3) := by decide +kernel
theorem dX11_warmer_11 : decode cX11_warmer 11 = .ok (.ifCond .eq 16, 3) := by decide +kernel
theorem dX11_warmer_27 : decode cX11_warmer 27 = .ok (.iconst (-1), 1) := by decide +kernel
theorem dX11_warmer_28 : decode cX11_warmer 28 = .ok (.ireturn, 1) := by decide +kernel
theorem dX11_guess_0 : decode cX11_guess 0 = .ok (.aload_n 0, 1) := by decide +kernel
theorem dX11_guess_1 : decode cX11_guess 1 = .ok (.iload_n 1, 1) := by decide +kernel
theorem dX11_guess_2 : decode cX11_guess 2 = .ok (.iload_n 2, 1) := by decide +kernel
theorem dX11_guess_3 : decode cX11_guess 3 = .ok (.iload_n 3, 1) := by decide +kernel
theorem dX11_guess_4 : decode cX11_guess 4 = .ok (.iload 4, 2) := by decide +kernel
theorem dX11_guess_6 : decode cX11_guess 6 = .ok (.iload 5, 2) := by decide +kernel
theorem dX11_guess_8 : decode cX11_guess 8 = .ok (.invokevirtual 403, 3) := by decide +kernel
theorem dX11_guess_11 : decode cX11_guess 11 = .ok (.ifCond .eq 67, 3) := by decide +kernel
theorem dX11_guess_78 : decode cX11_guess 78 = .ok (.iconst (-1), 1) := by decide +kernel
theorem dX11_guess_79 : decode cX11_guess 79 = .ok (.ireturn, 1) := by decide +kernel
theorem dX11_order_0 : decode cX11_order 0 = .ok (.aload_n 0, 1) := by decide +kernel
theorem dX11_order_1 : decode cX11_order 1 = .ok (.getfield 39, 3) := by decide +kernel
theorem dX11_order_4 : decode cX11_order 4 = .ok (.iconst 3, 1) := by decide +kernel
theorem dX11_order_5 : decode cX11_order 5 = .ok (.iaload, 1) := by decide +kernel
theorem dX11_order_6 : decode cX11_order 6 = .ok (.bipush 6, 2) := by decide +kernel
theorem dX11_order_8 : decode cX11_order 8 = .ok (.if_icmp .eq 48, 3) := by decide +kernel
theorem dX11_order_11 : decode cX11_order 11 = .ok (.aload_n 0, 1) := by decide +kernel
theorem dX11_order_12 : decode cX11_order 12 = .ok (.iload_n 1, 1) := by decide +kernel
theorem dX11_order_13 : decode cX11_order 13 = .ok (.invokevirtual 267, 3) := by decide +kernel
theorem dX11_order_16 : decode cX11_order 16 = .ok (.ifCond .eq 40, 3) := by decide +kernel
theorem dX11_order_56 : decode cX11_order 56 = .ok (.iconst (-1), 1) := by decide +kernel
theorem dX11_order_57 : decode cX11_order 57 = .ok (.ireturn, 1) := by decide +kernel
theorem dX11_serves_0 : decode cX11_serves 0 = .ok (.aload_n 0, 1) := by decide +kernel
theorem dX11_serves_1 : decode cX11_serves 1 = .ok (.iload_n 1, 1) := by decide +kernel
theorem dX11_serves_2 : decode cX11_serves 2 = .ok (.invokevirtual 363, 3) := by decide +kernel
theorem dX11_serves_5 : decode cX11_serves 5 = .ok (.ifCond .eq 39, 3) := by decide +kernel
theorem dX11_serves_44 : decode cX11_serves 44 = .ok (.iconst (-1), 1) := by decide +kernel
theorem dX11_serves_45 : decode cX11_serves 45 = .ok (.ireturn, 1) := by decide +kernel
theorem dX11_all_0 : decode cX11_all 0 = .ok (.aload_n 0, 1) := by decide +kernel
theorem dX11_all_1 : decode cX11_all 1 = .ok (.iload_n 1, 1) := by decide +kernel
theorem dX11_all_2 : decode cX11_all 2 = .ok (.invokevirtual 363, 3) := by decide +kernel
theorem dX11_all_5 : decode cX11_all 5 = .ok (.ifCond .eq 15, 3) := by decide +kernel
theorem dX11_all_20 : decode cX11_all 20 = .ok (.iconst (-1), 1) := by decide +kernel
theorem dX11_all_21 : decode cX11_all 21 = .ok (.ireturn, 1) := by decide +kernel
theorem dX11_feast_0 : decode cX11_feast 0 = .ok (.aload_n 0, 1) := by decide +kernel
theorem dX11_feast_1 : decode cX11_feast 1 = .ok (.getfield 39, 3) := by decide +kernel
theorem dX11_feast_4 : decode cX11_feast 4 = .ok (.iconst 4, 1) := by decide +kernel
theorem dX11_feast_5 : decode cX11_feast 5 = .ok (.iaload, 1) := by decide +kernel
theorem dX11_feast_6 : decode cX11_feast 6 = .ok (.bipush 8, 2) := by decide +kernel
theorem dX11_feast_8 : decode cX11_feast 8 = .ok (.if_icmp .eq 35, 3) := by decide +kernel
theorem dX11_feast_11 : decode cX11_feast 11 = .ok (.aload_n 0, 1) := by decide +kernel
theorem dX11_feast_12 : decode cX11_feast 12 = .ok (.iload_n 1, 1) := by decide +kernel
theorem dX11_feast_13 : decode cX11_feast 13 = .ok (.invokevirtual 267, 3) := by decide +kernel
theorem dX11_feast_16 : decode cX11_feast 16 = .ok (.ifCond .eq 27, 3) := by decide +kernel
theorem dX11_feast_43 : decode cX11_feast 43 = .ok (.iconst (-1), 1) := by decide +kernel
theorem dX11_feast_44 : decode cX11_feast 44 = .ok (.ireturn, 1) := by decide +kernel
theorem dX11_enough_0 : decode cX11_enough 0 = .ok (.aload_n 0, 1) := by decide +kernel
theorem dX11_enough_1 : decode cX11_enough 1 = .ok (.iload_n 1, 1) := by decide +kernel
theorem dX11_enough_2 : decode cX11_enough 2 = .ok (.invokevirtual 363, 3) := by decide +kernel
theorem dX11_enough_5 : decode cX11_enough 5 = .ok (.ifCond .eq 23, 3) := by decide +kernel
theorem dX11_enough_28 : decode cX11_enough 28 = .ok (.iconst (-1), 1) := by decide +kernel
theorem dX11_enough_29 : decode cX11_enough 29 = .ok (.goto 18, 3) := by decide +kernel
theorem dX11_enough_47 : decode cX11_enough 47 = .ok (.ireturn, 1) := by decide +kernel
theorem dX11_least_0 : decode cX11_least 0 = .ok (.aload_n 0, 1) := by decide +kernel
theorem dX11_least_1 : decode cX11_least 1 = .ok (.iload_n 1, 1) := by decide +kernel
theorem dX11_least_2 : decode cX11_least 2 = .ok (.invokevirtual 363, 3) := by decide +kernel
theorem dX11_least_5 : decode cX11_least 5 = .ok (.ifCond .eq 11, 3) := by decide +kernel
theorem dX11_least_16 : decode cX11_least 16 = .ok (.iconst (-1), 1) := by decide +kernel
theorem dX11_least_17 : decode cX11_least 17 = .ok (.ireturn, 1) := by decide +kernel
theorem dX11_nights_0 : decode cX11_nights 0 = .ok (.aload_n 0, 1) := by decide +kernel
theorem dX11_nights_1 : decode cX11_nights 1 = .ok (.iload_n 1, 1) := by decide +kernel
theorem dX11_nights_2 : decode cX11_nights 2 = .ok (.invokevirtual 363, 3) := by decide +kernel
theorem dX11_nights_5 : decode cX11_nights 5 = .ok (.ifCond .eq 59, 3) := by decide +kernel
theorem dX11_nights_64 : decode cX11_nights 64 = .ok (.iconst (-1), 1) := by decide +kernel
theorem dX11_nights_65 : decode cX11_nights 65 = .ok (.ireturn, 1) := by decide +kernel
theorem dX11_price_0 : decode cX11_price 0 = .ok (.aload_n 0, 1) := by decide +kernel
theorem dX11_price_1 : decode cX11_price 1 = .ok (.iload_n 1, 1) := by decide +kernel
theorem dX11_price_2 : decode cX11_price 2 = .ok (.invokevirtual 363, 3) := by decide +kernel
theorem dX11_price_5 : decode cX11_price 5 = .ok (.ifCond .eq 54, 3) := by decide +kernel
theorem dX11_price_59 : decode cX11_price 59 = .ok (.iconst (-1), 1) := by decide +kernel
theorem dX11_price_60 : decode cX11_price 60 = .ok (.ireturn, 1) := by decide +kernel
theorem dX11_ahead_0 : decode cX11_ahead 0 = .ok (.aload_n 0, 1) := by decide +kernel
theorem dX11_ahead_1 : decode cX11_ahead 1 = .ok (.iload_n 1, 1) := by decide +kernel
theorem dX11_ahead_2 : decode cX11_ahead 2 = .ok (.invokevirtual 363, 3) := by decide +kernel
theorem dX11_ahead_5 : decode cX11_ahead 5 = .ok (.ifCond .eq 25, 3) := by decide +kernel
theorem dX11_ahead_30 : decode cX11_ahead 30 = .ok (.iconst (-1), 1) := by decide +kernel
theorem dX11_ahead_31 : decode cX11_ahead 31 = .ok (.ireturn, 1) := by decide +kernel
theorem dX11_count_0 : decode cX11_count 0 = .ok (.iload_n 1, 1) := by decide +kernel
theorem dX11_count_1 : decode cX11_count 1 = .ok (.tableswitch 133 0 10 #[59, 59, 59, 66, 71, 78, 89, 89, 98, 120, 128], 59) := by decide +kernel
theorem dX11_count_134 : decode cX11_count 134 = .ok (.iconst (-1), 1) := by decide +kernel
theorem dX11_count_135 : decode cX11_count 135 = .ok (.ireturn, 1) := by decide +kernel
theorem dX11_count_60 : decode cX11_count 60 = .ok (.aload_n 0, 1) := by decide +kernel
theorem dX11_count_61 : decode cX11_count 61 = .ok (.getfield 39, 3) := by decide +kernel
theorem dX11_count_64 : decode cX11_count 64 = .ok (.iload_n 1, 1) := by decide +kernel
theorem dX11_count_65 : decode cX11_count 65 = .ok (.iaload, 1) := by decide +kernel
theorem dX11_count_66 : decode cX11_count 66 = .ok (.ireturn, 1) := by decide +kernel
theorem dX11_count_67 : decode cX11_count 67 = .ok (.aload_n 0, 1) := by decide +kernel
theorem dX11_count_68 : decode cX11_count 68 = .ok (.getfield 232, 3) := by decide +kernel
theorem dX11_count_71 : decode cX11_count 71 = .ok (.ireturn, 1) := by decide +kernel
theorem dX11_count_72 : decode cX11_count 72 = .ok (.aload_n 0, 1) := by decide +kernel
theorem dX11_count_73 : decode cX11_count 73 = .ok (.getfield 39, 3) := by decide +kernel
theorem dX11_count_76 : decode cX11_count 76 = .ok (.iconst 5, 1) := by decide +kernel
theorem dX11_count_77 : decode cX11_count 77 = .ok (.iaload, 1) := by decide +kernel
theorem dX11_count_78 : decode cX11_count 78 = .ok (.ireturn, 1) := by decide +kernel
theorem dX11_count_79 : decode cX11_count 79 = .ok (.aload_n 0, 1) := by decide +kernel
theorem dX11_count_80 : decode cX11_count 80 = .ok (.aload_n 0, 1) := by decide +kernel
theorem dX11_count_81 : decode cX11_count 81 = .ok (.getfield 39, 3) := by decide +kernel
theorem dX11_count_84 : decode cX11_count 84 = .ok (.iconst 5, 1) := by decide +kernel
theorem dX11_count_85 : decode cX11_count 85 = .ok (.iaload, 1) := by decide +kernel
theorem dX11_count_86 : decode cX11_count 86 = .ok (.invokevirtual 291, 3) := by decide +kernel
theorem dX11_count_89 : decode cX11_count 89 = .ok (.ireturn, 1) := by decide +kernel
theorem dX11_count_90 : decode cX11_count 90 = .ok (.aload_n 0, 1) := by decide +kernel
theorem dX11_count_91 : decode cX11_count 91 = .ok (.getfield 39, 3) := by decide +kernel
theorem dX11_count_94 : decode cX11_count 94 = .ok (.iload_n 1, 1) := by decide +kernel
theorem dX11_count_95 : decode cX11_count 95 = .ok (.iconst 3, 1) := by decide +kernel
theorem dX11_count_96 : decode cX11_count 96 = .ok (.isub, 1) := by decide +kernel
theorem dX11_count_97 : decode cX11_count 97 = .ok (.iaload, 1) := by decide +kernel
theorem dX11_count_98 : decode cX11_count 98 = .ok (.ireturn, 1) := by decide +kernel
theorem dX11_count_99 : decode cX11_count 99 = .ok (.aload_n 0, 1) := by decide +kernel
theorem dX11_count_100 : decode cX11_count 100 = .ok (.getfield 39, 3) := by decide +kernel
theorem dX11_count_103 : decode cX11_count 103 = .ok (.bipush 8, 2) := by decide +kernel
theorem dX11_count_105 : decode cX11_count 105 = .ok (.iaload, 1) := by decide +kernel
theorem dX11_count_106 : decode cX11_count 106 = .ok (.ifCond .ge 7, 3) := by decide +kernel
theorem dX11_count_109 : decode cX11_count 109 = .ok (.iconst (-1), 1) := by decide +kernel
theorem dX11_count_110 : decode cX11_count 110 = .ok (.goto 10, 3) := by decide +kernel
theorem dX11_count_120 : decode cX11_count 120 = .ok (.ireturn, 1) := by decide +kernel
theorem dX11_count_121 : decode cX11_count 121 = .ok (.aload_n 0, 1) := by decide +kernel
theorem dX11_count_122 : decode cX11_count 122 = .ok (.getfield 39, 3) := by decide +kernel
theorem dX11_count_125 : decode cX11_count 125 = .ok (.bipush 7, 2) := by decide +kernel
theorem dX11_count_127 : decode cX11_count 127 = .ok (.iaload, 1) := by decide +kernel
theorem dX11_count_128 : decode cX11_count 128 = .ok (.ireturn, 1) := by decide +kernel
theorem dX11_count_129 : decode cX11_count 129 = .ok (.aload_n 0, 1) := by decide +kernel
theorem dX11_count_130 : decode cX11_count 130 = .ok (.getfield 79, 3) := by decide +kernel
theorem dX11_count_133 : decode cX11_count 133 = .ok (.ireturn, 1) := by decide +kernel
theorem dX11_image_0 : decode cX11_image 0 = .ok (.iload_n 1, 1) := by decide +kernel
theorem dX11_image_1 : decode cX11_image 1 = .ok (.i2l, 1) := by decide +kernel
theorem dX11_image_2 : decode cX11_image 2 = .ok (.lconst 0, 1) := by decide +kernel
theorem dX11_image_3 : decode cX11_image 3 = .ok (.ldc2_w 469, 3) := by decide +kernel
theorem dX11_image_6 : decode cX11_image 6 = .ok (.invokestatic 118, 3) := by decide +kernel
theorem dX11_image_9 : decode cX11_image 9 = .ok (.ifCond .ne 5, 3) := by decide +kernel
theorem dX11_image_14 : decode cX11_image 14 = .ok (.aload_n 0, 1) := by decide +kernel
theorem dX11_image_15 : decode cX11_image 15 = .ok (.getfield 75, 3) := by decide +kernel
theorem dX11_image_18 : decode cX11_image 18 = .ok (.iload_n 1, 1) := by decide +kernel
theorem dX11_image_19 : decode cX11_image 19 = .ok (.iconst 1, 1) := by decide +kernel
theorem dX11_image_20 : decode cX11_image 20 = .ok (.bastore, 1) := by decide +kernel
theorem dX11_image_21 : decode cX11_image 21 = .ok (.iconst 0, 1) := by decide +kernel
theorem dX11_image_22 : decode cX11_image 22 = .ok (.istore_n 2, 1) := by decide +kernel
theorem dX11_image_54 : decode cX11_image 54 = .ok (.aload_n 0, 1) := by decide +kernel
theorem dX11_image_55 : decode cX11_image 55 = .ok (.getfield 39, 3) := by decide +kernel
theorem dX11_image_58 : decode cX11_image 58 = .ok (.iconst 5, 1) := by decide +kernel
theorem dX11_image_59 : decode cX11_image 59 = .ok (.iaload, 1) := by decide +kernel
theorem dX11_image_60 : decode cX11_image 60 = .ok (.ireturn, 1) := by decide +kernel
theorem dX11_image_12 : decode cX11_image 12 = .ok (.iconst (-1), 1) := by decide +kernel
theorem dX11_image_13 : decode cX11_image 13 = .ok (.ireturn, 1) := by decide +kernel
theorem dX11_back_0 : decode cX11_back 0 = .ok (.iload_n 1, 1) := by decide +kernel
theorem dX11_back_1 : decode cX11_back 1 = .ok (.i2l, 1) := by decide +kernel
theorem dX11_back_2 : decode cX11_back 2 = .ok (.lconst 0, 1) := by decide +kernel
theorem dX11_back_3 : decode cX11_back 3 = .ok (.ldc2_w 469, 3) := by decide +kernel
theorem dX11_back_6 : decode cX11_back 6 = .ok (.invokestatic 118, 3) := by decide +kernel
theorem dX11_back_9 : decode cX11_back 9 = .ok (.ifCond .eq 12, 3) := by decide +kernel
theorem dX11_back_21 : decode cX11_back 21 = .ok (.iconst (-1), 1) := by decide +kernel
theorem dX11_back_22 : decode cX11_back 22 = .ok (.ireturn, 1) := by decide +kernel
theorem dX11_back_12 : decode cX11_back 12 = .ok (.aload_n 0, 1) := by decide +kernel
theorem dX11_back_13 : decode cX11_back 13 = .ok (.getfield 75, 3) := by decide +kernel
theorem dX11_back_16 : decode cX11_back 16 = .ok (.iload_n 1, 1) := by decide +kernel
theorem dX11_back_17 : decode cX11_back 17 = .ok (.baload, 1) := by decide +kernel
theorem dX11_back_18 : decode cX11_back 18 = .ok (.ifCond .ne 5, 3) := by decide +kernel

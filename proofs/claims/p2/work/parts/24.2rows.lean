theorem kX11_four_1 {a : Array Value} {s : State} (hts : ∀ w ∈ wsX11_four, w.before a s = true) : (.fieldLink RX11 7 "SnowMulesModel" "tape" "[B" : Cond).before a s = true := hts _ (List.mem_of_getElem? (i := 1) (by decide +kernel))
theorem kX11_four_2 {a : Array Value} {s : State} (hts : ∀ w ∈ wsX11_four, w.before a s = true) : (.fieldLink RX11 79 "SnowMulesModel" "taped" "I" : Cond).before a s = true := hts _ (List.mem_of_getElem? (i := 2) (by decide +kernel))
theorem kX11_feed_1 {a : Array Value} {s : State} (hts : ∀ w ∈ wsX11_feed, w.before a s = true) : (.fieldLink RX11 79 "SnowMulesModel" "taped" "I" : Cond).before a s = true := hts _ (List.mem_of_getElem? (i := 1) (by decide +kernel))
theorem kX11_end_1 {a : Array Value} {s : State} (hts : ∀ w ∈ wsX11_end, w.before a s = true) : (.fieldLink RX11 79 "SnowMulesModel" "taped" "I" : Cond).before a s = true := hts _ (List.mem_of_getElem? (i := 1) (by decide +kernel))
theorem kX11_fails_1 {a : Array Value} {s : State} (hts : ∀ w ∈ wsX11_fails, w.before a s = true) : (.fieldLink RX11 87 "SnowMulesModel" "wrong" "I" : Cond).before a s = true := hts _ (List.mem_of_getElem? (i := 1) (by decide +kernel))
theorem kX11_see_1 {a : Array Value} {s : State} (hts : ∀ w ∈ wsX11_see, w.before a s = true) : (.fieldLink RX11 90 "SnowMulesModel" "next" "I" : Cond).before a s = true := hts _ (List.mem_of_getElem? (i := 1) (by decide +kernel))
theorem kX11_see_2 {a : Array Value} {s : State} (hts : ∀ w ∈ wsX11_see, w.before a s = true) : (.fieldLink RX11 79 "SnowMulesModel" "taped" "I" : Cond).before a s = true := hts _ (List.mem_of_getElem? (i := 2) (by decide +kernel))
theorem kX11_see_3 {a : Array Value} {s : State} (hts : ∀ w ∈ wsX11_see, w.before a s = true) : (.fieldLink RX11 7 "SnowMulesModel" "tape" "[B" : Cond).before a s = true := hts _ (List.mem_of_getElem? (i := 3) (by decide +kernel))
theorem kX11_isDigit_1 {a : Array Value} {s : State} (hts : ∀ w ∈ wsX11_isDigit, w.before a s = true) : (.fieldLink RX11 79 "SnowMulesModel" "taped" "I" : Cond).before a s = true := hts _ (List.mem_of_getElem? (i := 1) (by decide +kernel))
theorem kX11_isDigit_2 {a : Array Value} {s : State} (hts : ∀ w ∈ wsX11_isDigit, w.before a s = true) : (.fieldLink RX11 7 "SnowMulesModel" "tape" "[B" : Cond).before a s = true := hts _ (List.mem_of_getElem? (i := 2) (by decide +kernel))
theorem kX11_isLetter_1 {a : Array Value} {s : State} (hts : ∀ w ∈ wsX11_isLetter, w.before a s = true) : (.fieldLink RX11 79 "SnowMulesModel" "taped" "I" : Cond).before a s = true := hts _ (List.mem_of_getElem? (i := 1) (by decide +kernel))
theorem kX11_isLetter_2 {a : Array Value} {s : State} (hts : ∀ w ∈ wsX11_isLetter, w.before a s = true) : (.fieldLink RX11 7 "SnowMulesModel" "tape" "[B" : Cond).before a s = true := hts _ (List.mem_of_getElem? (i := 2) (by decide +kernel))
theorem kX11_isWord_1 {a : Array Value} {s : State} (hts : ∀ w ∈ wsX11_isWord, w.before a s = true) : (.fieldLink RX11 90 "SnowMulesModel" "next" "I" : Cond).before a s = true := hts _ (List.mem_of_getElem? (i := 1) (by decide +kernel))
theorem kX11_isWord_2 {a : Array Value} {s : State} (hts : ∀ w ∈ wsX11_isWord, w.before a s = true) : (.fieldLink RX11 7 "SnowMulesModel" "tape" "[B" : Cond).before a s = true := hts _ (List.mem_of_getElem? (i := 2) (by decide +kernel))
theorem kX11_passWord_1 {a : Array Value} {s : State} (hts : ∀ w ∈ wsX11_passWord, w.before a s = true) : (.fieldLink RX11 90 "SnowMulesModel" "next" "I" : Cond).before a s = true := hts _ (List.mem_of_getElem? (i := 1) (by decide +kernel))
theorem kX11_numberHere_1 {a : Array Value} {s : State} (hts : ∀ w ∈ wsX11_numberHere, w.before a s = true) : (.fieldLink RX11 90 "SnowMulesModel" "next" "I" : Cond).before a s = true := hts _ (List.mem_of_getElem? (i := 1) (by decide +kernel))
theorem kX11_numberHere_2 {a : Array Value} {s : State} (hts : ∀ w ∈ wsX11_numberHere, w.before a s = true) : (.fieldLink RX11 7 "SnowMulesModel" "tape" "[B" : Cond).before a s = true := hts _ (List.mem_of_getElem? (i := 2) (by decide +kernel))
theorem kX11_numberHere_3 {a : Array Value} {s : State} (hts : ∀ w ∈ wsX11_numberHere, w.before a s = true) : (.fieldLink RX11 115 "SnowMulesModel" "number" "I" : Cond).before a s = true := hts _ (List.mem_of_getElem? (i := 3) (by decide +kernel))
theorem kX11_wordHere_1 {a : Array Value} {s : State} (hts : ∀ w ∈ wsX11_wordHere, w.before a s = true) : (.constantLong RX11 122 (470020945000) : Cond).before a s = true := hts _ (List.mem_of_getElem? (i := 1) (by decide +kernel))
theorem kX11_wordHere_2 {a : Array Value} {s : State} (hts : ∀ w ∈ wsX11_wordHere, w.before a s = true) : (.constantLong RX11 124 (1752135026) : Cond).before a s = true := hts _ (List.mem_of_getElem? (i := 2) (by decide +kernel))
theorem kX11_wordHere_3 {a : Array Value} {s : State} (hts : ∀ w ∈ wsX11_wordHere, w.before a s = true) : (.constantLong RX11 126 (6578553) : Cond).before a s = true := hts _ (List.mem_of_getElem? (i := 3) (by decide +kernel))
theorem kX11_wordHere_4 {a : Array Value} {s : State} (hts : ∀ w ∈ wsX11_wordHere, w.before a s = true) : (.constantLong RX11 128 (114784769370228) : Cond).before a s = true := hts _ (List.mem_of_getElem? (i := 4) (by decide +kernel))
theorem kX11_wordHere_5 {a : Array Value} {s : State} (hts : ∀ w ∈ wsX11_wordHere, w.before a s = true) : (.constantLong RX11 130 (7566702) : Cond).before a s = true := hts _ (List.mem_of_getElem? (i := 5) (by decide +kernel))
theorem kX11_wordHere_6 {a : Array Value} {s : State} (hts : ∀ w ∈ wsX11_wordHere, w.before a s = true) : (.constantLong RX11 132 (1668246628) : Cond).before a s = true := hts _ (List.mem_of_getElem? (i := 6) (by decide +kernel))
theorem kX11_wordHere_7 {a : Array Value} {s : State} (hts : ∀ w ∈ wsX11_wordHere, w.before a s = true) : (.constantLong RX11 134 (1852793957) : Cond).before a s = true := hts _ (List.mem_of_getElem? (i := 7) (by decide +kernel))
theorem kX11_wordHere_8 {a : Array Value} {s : State} (hts : ∀ w ∈ wsX11_wordHere, w.before a s = true) : (.constantLong RX11 136 (431416635507) : Cond).before a s = true := hts _ (List.mem_of_getElem? (i := 8) (by decide +kernel))
theorem kX11_wordHere_9 {a : Array Value} {s : State} (hts : ∀ w ∈ wsX11_wordHere, w.before a s = true) : (.constantLong RX11 138 (1717922932) : Cond).before a s = true := hts _ (List.mem_of_getElem? (i := 9) (by decide +kernel))
theorem kX11_wordHere_10 {a : Array Value} {s : State} (hts : ∀ w ∈ wsX11_wordHere, w.before a s = true) : (.constantLong RX11 140 (1935764596) : Cond).before a s = true := hts _ (List.mem_of_getElem? (i := 10) (by decide +kernel))
theorem kX11_wordHere_11 {a : Array Value} {s : State} (hts : ∀ w ∈ wsX11_wordHere, w.before a s = true) : (.constantLong RX11 142 (1735356005) : Cond).before a s = true := hts _ (List.mem_of_getElem? (i := 11) (by decide +kernel))
theorem kX11_makes_1 {a : Array Value} {s : State} (hts : ∀ w ∈ wsX11_makes, w.before a s = true) : (.fieldLink RX11 147 "SnowMulesModel" "made" "I" : Cond).before a s = true := hts _ (List.mem_of_getElem? (i := 1) (by decide +kernel))
theorem kX11_puts_1 {a : Array Value} {s : State} (hts : ∀ w ∈ wsX11_puts, w.before a s = true) : (.fieldLink RX11 13 "SnowMulesModel" "sign" "[I" : Cond).before a s = true := hts _ (List.mem_of_getElem? (i := 1) (by decide +kernel))
theorem kX11_puts_2 {a : Array Value} {s : State} (hts : ∀ w ∈ wsX11_puts, w.before a s = true) : (.fieldLink RX11 144 "SnowMulesModel" "text" "I" : Cond).before a s = true := hts _ (List.mem_of_getElem? (i := 2) (by decide +kernel))
theorem kX11_puts_3 {a : Array Value} {s : State} (hts : ∀ w ∈ wsX11_puts, w.before a s = true) : (.fieldLink RX11 17 "SnowMulesModel" "length" "[I" : Cond).before a s = true := hts _ (List.mem_of_getElem? (i := 3) (by decide +kernel))
theorem kX11_opens_1 {a : Array Value} {s : State} (hts : ∀ w ∈ wsX11_opens, w.before a s = true) : (.fieldLink RX11 150 "SnowMulesModel" "deep" "I" : Cond).before a s = true := hts _ (List.mem_of_getElem? (i := 1) (by decide +kernel))
theorem kX11_opens_3 {a : Array Value} {s : State} (hts : ∀ w ∈ wsX11_opens, w.before a s = true) : (.fieldLink RX11 29 "SnowMulesModel" "open" "[I" : Cond).before a s = true := hts _ (List.mem_of_getElem? (i := 3) (by decide +kernel))
theorem kX11_opens_4 {a : Array Value} {s : State} (hts : ∀ w ∈ wsX11_opens, w.before a s = true) : (.fieldLink RX11 153 "SnowMulesModel" "opened" "I" : Cond).before a s = true := hts _ (List.mem_of_getElem? (i := 4) (by decide +kernel))
theorem kX11_opens_2 {a : Array Value} {s : State} (hts : ∀ w ∈ wsX11_opens, w.before a s = true) : (.fieldLink RX11 90 "SnowMulesModel" "next" "I" : Cond).before a s = true := hts _ (List.mem_of_getElem? (i := 2) (by decide +kernel))
theorem kX11_isInside_1 {a : Array Value} {s : State} (hts : ∀ w ∈ wsX11_isInside, w.before a s = true) : (.fieldLink RX11 153 "SnowMulesModel" "opened" "I" : Cond).before a s = true := hts _ (List.mem_of_getElem? (i := 1) (by decide +kernel))
theorem kX11_isInside_2 {a : Array Value} {s : State} (hts : ∀ w ∈ wsX11_isInside, w.before a s = true) : (.fieldLink RX11 29 "SnowMulesModel" "open" "[I" : Cond).before a s = true := hts _ (List.mem_of_getElem? (i := 2) (by decide +kernel))
theorem iX11_four_X11 : ∀ w ∈ wsX110, w ∈ wsX11_four := by decide +kernel
theorem iX11_feed_X11 : ∀ w ∈ wsX110, w ∈ wsX11_feed := by decide +kernel
theorem iX11_end_X11 : ∀ w ∈ wsX110, w ∈ wsX11_end := by decide +kernel
theorem iX11_fails_X11 : ∀ w ∈ wsX110, w ∈ wsX11_fails := by decide +kernel
theorem iX11_see_X11 : ∀ w ∈ wsX110, w ∈ wsX11_see := by decide +kernel
theorem iX11_isDigit_X11 : ∀ w ∈ wsX110, w ∈ wsX11_isDigit := by decide +kernel
theorem iX11_isLetter_X11 : ∀ w ∈ wsX110, w ∈ wsX11_isLetter := by decide +kernel
theorem iX11_isWord_X11 : ∀ w ∈ wsX110, w ∈ wsX11_isWord := by decide +kernel
theorem iX11_passWord_X11 : ∀ w ∈ wsX110, w ∈ wsX11_passWord := by decide +kernel
theorem iX11_numberHere_X11 : ∀ w ∈ wsX110, w ∈ wsX11_numberHere := by decide +kernel
theorem iX11_makes_X11 : ∀ w ∈ wsX110, w ∈ wsX11_makes := by decide +kernel
theorem iX11_puts_X11 : ∀ w ∈ wsX110, w ∈ wsX11_puts := by decide +kernel
theorem iX11_opens_X11 : ∀ w ∈ wsX110, w ∈ wsX11_opens := by decide +kernel
theorem iX11_isInside_X11 : ∀ w ∈ wsX110, w ∈ wsX11_isInside := by decide +kernel
theorem dX11_four_0 : decode cX11_four 0 = .ok (.bipush 24, 2) := by decide +kernel
theorem dX11_four_2 : decode cX11_four 2 = .ok (.istore_n 2, 1) := by decide +kernel
theorem dX11_four_3 : decode cX11_four 3 = .ok (.iload_n 2, 1) := by decide +kernel
theorem dX11_four_4 : decode cX11_four 4 = .ok (.ifCond .lt 32, 3) := by decide +kernel
theorem dX11_four_7 : decode cX11_four 7 = .ok (.aload_n 0, 1) := by decide +kernel
theorem dX11_four_8 : decode cX11_four 8 = .ok (.getfield 7, 3) := by decide +kernel
theorem dX11_four_11 : decode cX11_four 11 = .ok (.aload_n 0, 1) := by decide +kernel
theorem dX11_four_12 : decode cX11_four 12 = .ok (.getfield 79, 3) := by decide +kernel
theorem dX11_four_15 : decode cX11_four 15 = .ok (.iload_n 1, 1) := by decide +kernel
theorem dX11_four_16 : decode cX11_four 16 = .ok (.iload_n 2, 1) := by decide +kernel
theorem dX11_four_17 : decode cX11_four 17 = .ok (.ishr, 1) := by decide +kernel
theorem dX11_four_18 : decode cX11_four 18 = .ok (.i2b, 1) := by decide +kernel
theorem dX11_four_19 : decode cX11_four 19 = .ok (.bastore, 1) := by decide +kernel
theorem dX11_four_20 : decode cX11_four 20 = .ok (.aload_n 0, 1) := by decide +kernel
theorem dX11_four_21 : decode cX11_four 21 = .ok (.dup, 1) := by decide +kernel
theorem dX11_four_22 : decode cX11_four 22 = .ok (.getfield 79, 3) := by decide +kernel
theorem dX11_four_25 : decode cX11_four 25 = .ok (.iconst 1, 1) := by decide +kernel
theorem dX11_four_26 : decode cX11_four 26 = .ok (.iadd, 1) := by decide +kernel
theorem dX11_four_27 : decode cX11_four 27 = .ok (.putfield 79, 3) := by decide +kernel
theorem dX11_four_30 : decode cX11_four 30 = .ok (.iinc 2 (-8), 3) := by decide +kernel
theorem dX11_four_33 : decode cX11_four 33 = .ok (.goto (-30), 3) := by decide +kernel
theorem dX11_four_36 : decode cX11_four 36 = .ok (.return_, 1) := by decide +kernel
theorem dX11_feed_0 : decode cX11_feed 0 = .ok (.aload_n 0, 1) := by decide +kernel
theorem dX11_feed_1 : decode cX11_feed 1 = .ok (.getfield 79, 3) := by decide +kernel
theorem dX11_feed_4 : decode cX11_feed 4 = .ok (.bipush 20, 2) := by decide +kernel
theorem dX11_feed_6 : decode cX11_feed 6 = .ok (.iadd, 1) := by decide +kernel
theorem dX11_feed_7 : decode cX11_feed 7 = .ok (.sipush 400, 3) := by decide +kernel
theorem dX11_feed_10 : decode cX11_feed 10 = .ok (.if_icmp .le 5, 3) := by decide +kernel
theorem dX11_feed_15 : decode cX11_feed 15 = .ok (.aload_n 0, 1) := by decide +kernel
theorem dX11_feed_16 : decode cX11_feed 16 = .ok (.iload_n 1, 1) := by decide +kernel
theorem dX11_feed_17 : decode cX11_feed 17 = .ok (.invokevirtual 83, 3) := by decide +kernel
theorem dX11_feed_20 : decode cX11_feed 20 = .ok (.aload_n 0, 1) := by decide +kernel
theorem dX11_feed_21 : decode cX11_feed 21 = .ok (.iload_n 2, 1) := by decide +kernel
theorem dX11_feed_22 : decode cX11_feed 22 = .ok (.invokevirtual 83, 3) := by decide +kernel
theorem dX11_feed_25 : decode cX11_feed 25 = .ok (.aload_n 0, 1) := by decide +kernel
theorem dX11_feed_26 : decode cX11_feed 26 = .ok (.iload_n 3, 1) := by decide +kernel
theorem dX11_feed_27 : decode cX11_feed 27 = .ok (.invokevirtual 83, 3) := by decide +kernel
theorem dX11_feed_30 : decode cX11_feed 30 = .ok (.aload_n 0, 1) := by decide +kernel
theorem dX11_feed_31 : decode cX11_feed 31 = .ok (.iload 4, 2) := by decide +kernel
theorem dX11_feed_33 : decode cX11_feed 33 = .ok (.invokevirtual 83, 3) := by decide +kernel
theorem dX11_feed_36 : decode cX11_feed 36 = .ok (.aload_n 0, 1) := by decide +kernel
theorem dX11_feed_37 : decode cX11_feed 37 = .ok (.iload 5, 2) := by decide +kernel
theorem dX11_feed_39 : decode cX11_feed 39 = .ok (.invokevirtual 83, 3) := by decide +kernel
theorem dX11_feed_42 : decode cX11_feed 42 = .ok (.aload_n 0, 1) := by decide +kernel
theorem dX11_feed_43 : decode cX11_feed 43 = .ok (.getfield 79, 3) := by decide +kernel
theorem dX11_feed_13 : decode cX11_feed 13 = .ok (.iconst (-1), 1) := by decide +kernel
theorem dX11_feed_14 : decode cX11_feed 14 = .ok (.ireturn, 1) := by decide +kernel
theorem dX11_feed_46 : decode cX11_feed 46 = .ok (.ireturn, 1) := by decide +kernel
theorem dX11_end_0 : decode cX11_end 0 = .ok (.iload_n 1, 1) := by decide +kernel
theorem dX11_end_1 : decode cX11_end 1 = .ok (.ifCond .lt 11, 3) := by decide +kernel
theorem dX11_end_12 : decode cX11_end 12 = .ok (.iconst (-1), 1) := by decide +kernel
theorem dX11_end_13 : decode cX11_end 13 = .ok (.ireturn, 1) := by decide +kernel
theorem dX11_end_4 : decode cX11_end 4 = .ok (.iload_n 1, 1) := by decide +kernel
theorem dX11_end_5 : decode cX11_end 5 = .ok (.aload_n 0, 1) := by decide +kernel
theorem dX11_end_6 : decode cX11_end 6 = .ok (.getfield 79, 3) := by decide +kernel
theorem dX11_end_9 : decode cX11_end 9 = .ok (.if_icmp .le 5, 3) := by decide +kernel
theorem dX11_end_14 : decode cX11_end 14 = .ok (.aload_n 0, 1) := by decide +kernel
theorem dX11_end_15 : decode cX11_end 15 = .ok (.iload_n 1, 1) := by decide +kernel
theorem dX11_end_16 : decode cX11_end 16 = .ok (.putfield 79, 3) := by decide +kernel
theorem dX11_end_19 : decode cX11_end 19 = .ok (.iload_n 1, 1) := by decide +kernel
theorem dX11_end_20 : decode cX11_end 20 = .ok (.ireturn, 1) := by decide +kernel
theorem dX11_fails_0 : decode cX11_fails 0 = .ok (.aload_n 0, 1) := by decide +kernel
theorem dX11_fails_1 : decode cX11_fails 1 = .ok (.getfield 87, 3) := by decide +kernel
theorem dX11_fails_4 : decode cX11_fails 4 = .ok (.ifCond .ne 15, 3) := by decide +kernel
theorem dX11_fails_19 : decode cX11_fails 19 = .ok (.iconst 0, 1) := by decide +kernel
theorem dX11_fails_20 : decode cX11_fails 20 = .ok (.ireturn, 1) := by decide +kernel
theorem dX11_fails_7 : decode cX11_fails 7 = .ok (.aload_n 0, 1) := by decide +kernel
theorem dX11_fails_8 : decode cX11_fails 8 = .ok (.iconst 1, 1) := by decide +kernel
theorem dX11_fails_9 : decode cX11_fails 9 = .ok (.bipush 8, 2) := by decide +kernel
theorem dX11_fails_11 : decode cX11_fails 11 = .ok (.iload_n 2, 1) := by decide +kernel
theorem dX11_fails_12 : decode cX11_fails 12 = .ok (.imul, 1) := by decide +kernel
theorem dX11_fails_13 : decode cX11_fails 13 = .ok (.iadd, 1) := by decide +kernel
theorem dX11_fails_14 : decode cX11_fails 14 = .ok (.iload_n 1, 1) := by decide +kernel
theorem dX11_fails_15 : decode cX11_fails 15 = .ok (.iadd, 1) := by decide +kernel
theorem dX11_fails_16 : decode cX11_fails 16 = .ok (.putfield 87, 3) := by decide +kernel
theorem dX11_see_0 : decode cX11_see 0 = .ok (.aload_n 0, 1) := by decide +kernel
theorem dX11_see_1 : decode cX11_see 1 = .ok (.getfield 90, 3) := by decide +kernel
theorem dX11_see_4 : decode cX11_see 4 = .ok (.aload_n 0, 1) := by decide +kernel
theorem dX11_see_5 : decode cX11_see 5 = .ok (.getfield 79, 3) := by decide +kernel
theorem dX11_see_8 : decode cX11_see 8 = .ok (.if_icmp .ge 30, 3) := by decide +kernel
theorem dX11_see_11 : decode cX11_see 11 = .ok (.aload_n 0, 1) := by decide +kernel
theorem dX11_see_12 : decode cX11_see 12 = .ok (.getfield 7, 3) := by decide +kernel
theorem dX11_see_15 : decode cX11_see 15 = .ok (.aload_n 0, 1) := by decide +kernel
theorem dX11_see_16 : decode cX11_see 16 = .ok (.getfield 90, 3) := by decide +kernel
theorem dX11_see_19 : decode cX11_see 19 = .ok (.baload, 1) := by decide +kernel
theorem dX11_see_20 : decode cX11_see 20 = .ok (.bipush 32, 2) := by decide +kernel
theorem dX11_see_22 : decode cX11_see 22 = .ok (.if_icmp .ne 16, 3) := by decide +kernel
theorem dX11_see_25 : decode cX11_see 25 = .ok (.aload_n 0, 1) := by decide +kernel
theorem dX11_see_26 : decode cX11_see 26 = .ok (.dup, 1) := by decide +kernel
theorem dX11_see_27 : decode cX11_see 27 = .ok (.getfield 90, 3) := by decide +kernel
theorem dX11_see_30 : decode cX11_see 30 = .ok (.iconst 1, 1) := by decide +kernel
theorem dX11_see_31 : decode cX11_see 31 = .ok (.iadd, 1) := by decide +kernel
theorem dX11_see_32 : decode cX11_see 32 = .ok (.putfield 90, 3) := by decide +kernel
theorem dX11_see_35 : decode cX11_see 35 = .ok (.goto (-35), 3) := by decide +kernel
theorem dX11_see_38 : decode cX11_see 38 = .ok (.aload_n 0, 1) := by decide +kernel
theorem dX11_see_39 : decode cX11_see 39 = .ok (.getfield 90, 3) := by decide +kernel
theorem dX11_see_42 : decode cX11_see 42 = .ok (.aload_n 0, 1) := by decide +kernel
theorem dX11_see_43 : decode cX11_see 43 = .ok (.getfield 79, 3) := by decide +kernel
theorem dX11_see_46 : decode cX11_see 46 = .ok (.if_icmp .ge 19, 3) := by decide +kernel
theorem dX11_see_65 : decode cX11_see 65 = .ok (.iconst (-1), 1) := by decide +kernel
theorem dX11_see_49 : decode cX11_see 49 = .ok (.aload_n 0, 1) := by decide +kernel
theorem dX11_see_50 : decode cX11_see 50 = .ok (.getfield 7, 3) := by decide +kernel
theorem dX11_see_53 : decode cX11_see 53 = .ok (.aload_n 0, 1) := by decide +kernel
theorem dX11_see_54 : decode cX11_see 54 = .ok (.getfield 90, 3) := by decide +kernel
theorem dX11_see_57 : decode cX11_see 57 = .ok (.baload, 1) := by decide +kernel
theorem dX11_see_58 : decode cX11_see 58 = .ok (.sipush 255, 3) := by decide +kernel
theorem dX11_see_61 : decode cX11_see 61 = .ok (.iand, 1) := by decide +kernel
theorem dX11_see_62 : decode cX11_see 62 = .ok (.goto 4, 3) := by decide +kernel
theorem dX11_see_66 : decode cX11_see 66 = .ok (.ireturn, 1) := by decide +kernel
theorem dX11_isDigit_0 : decode cX11_isDigit 0 = .ok (.iload_n 1, 1) := by decide +kernel
theorem dX11_isDigit_1 : decode cX11_isDigit 1 = .ok (.aload_n 0, 1) := by decide +kernel
theorem dX11_isDigit_2 : decode cX11_isDigit 2 = .ok (.getfield 79, 3) := by decide +kernel
theorem dX11_isDigit_5 : decode cX11_isDigit 5 = .ok (.if_icmp .ge 29, 3) := by decide +kernel
theorem dX11_isDigit_34 : decode cX11_isDigit 34 = .ok (.iconst 0, 1) := by decide +kernel
theorem dX11_isDigit_35 : decode cX11_isDigit 35 = .ok (.ireturn, 1) := by decide +kernel
theorem dX11_isDigit_8 : decode cX11_isDigit 8 = .ok (.aload_n 0, 1) := by decide +kernel
theorem dX11_isDigit_9 : decode cX11_isDigit 9 = .ok (.getfield 7, 3) := by decide +kernel
theorem dX11_isDigit_12 : decode cX11_isDigit 12 = .ok (.iload_n 1, 1) := by decide +kernel
theorem dX11_isDigit_13 : decode cX11_isDigit 13 = .ok (.baload, 1) := by decide +kernel
theorem dX11_isDigit_14 : decode cX11_isDigit 14 = .ok (.bipush 48, 2) := by decide +kernel
theorem dX11_isDigit_16 : decode cX11_isDigit 16 = .ok (.if_icmp .lt 18, 3) := by decide +kernel
theorem dX11_isDigit_19 : decode cX11_isDigit 19 = .ok (.aload_n 0, 1) := by decide +kernel
theorem dX11_isDigit_20 : decode cX11_isDigit 20 = .ok (.getfield 7, 3) := by decide +kernel
theorem dX11_isDigit_23 : decode cX11_isDigit 23 = .ok (.iload_n 1, 1) := by decide +kernel
theorem dX11_isDigit_24 : decode cX11_isDigit 24 = .ok (.baload, 1) := by decide +kernel
theorem dX11_isDigit_25 : decode cX11_isDigit 25 = .ok (.bipush 57, 2) := by decide +kernel
theorem dX11_isDigit_27 : decode cX11_isDigit 27 = .ok (.if_icmp .gt 7, 3) := by decide +kernel
theorem dX11_isDigit_30 : decode cX11_isDigit 30 = .ok (.iconst 1, 1) := by decide +kernel
theorem dX11_isDigit_31 : decode cX11_isDigit 31 = .ok (.goto 4, 3) := by decide +kernel
theorem dX11_isLetter_0 : decode cX11_isLetter 0 = .ok (.iload_n 1, 1) := by decide +kernel
theorem dX11_isLetter_1 : decode cX11_isLetter 1 = .ok (.aload_n 0, 1) := by decide +kernel
theorem dX11_isLetter_2 : decode cX11_isLetter 2 = .ok (.getfield 79, 3) := by decide +kernel
theorem dX11_isLetter_5 : decode cX11_isLetter 5 = .ok (.if_icmp .ge 29, 3) := by decide +kernel
theorem dX11_isLetter_34 : decode cX11_isLetter 34 = .ok (.iconst 0, 1) := by decide +kernel
theorem dX11_isLetter_35 : decode cX11_isLetter 35 = .ok (.ireturn, 1) := by decide +kernel
theorem dX11_isLetter_8 : decode cX11_isLetter 8 = .ok (.aload_n 0, 1) := by decide +kernel
theorem dX11_isLetter_9 : decode cX11_isLetter 9 = .ok (.getfield 7, 3) := by decide +kernel
theorem dX11_isLetter_12 : decode cX11_isLetter 12 = .ok (.iload_n 1, 1) := by decide +kernel
theorem dX11_isLetter_13 : decode cX11_isLetter 13 = .ok (.baload, 1) := by decide +kernel
theorem dX11_isLetter_14 : decode cX11_isLetter 14 = .ok (.bipush 97, 2) := by decide +kernel
theorem dX11_isLetter_16 : decode cX11_isLetter 16 = .ok (.if_icmp .lt 18, 3) := by decide +kernel
theorem dX11_isLetter_19 : decode cX11_isLetter 19 = .ok (.aload_n 0, 1) := by decide +kernel
theorem dX11_isLetter_20 : decode cX11_isLetter 20 = .ok (.getfield 7, 3) := by decide +kernel
theorem dX11_isLetter_23 : decode cX11_isLetter 23 = .ok (.iload_n 1, 1) := by decide +kernel
theorem dX11_isLetter_24 : decode cX11_isLetter 24 = .ok (.baload, 1) := by decide +kernel
theorem dX11_isLetter_25 : decode cX11_isLetter 25 = .ok (.bipush 122, 2) := by decide +kernel
theorem dX11_isLetter_27 : decode cX11_isLetter 27 = .ok (.if_icmp .gt 7, 3) := by decide +kernel
theorem dX11_isLetter_30 : decode cX11_isLetter 30 = .ok (.iconst 1, 1) := by decide +kernel
theorem dX11_isLetter_31 : decode cX11_isLetter 31 = .ok (.goto 4, 3) := by decide +kernel
theorem dX11_isWord_0 : decode cX11_isWord 0 = .ok (.aload_n 0, 1) := by decide +kernel
theorem dX11_isWord_1 : decode cX11_isWord 1 = .ok (.invokevirtual 93, 3) := by decide +kernel
theorem dX11_isWord_4 : decode cX11_isWord 4 = .ok (.pop, 1) := by decide +kernel
theorem dX11_isWord_5 : decode cX11_isWord 5 = .ok (.lconst 0, 1) := by decide +kernel
theorem dX11_isWord_6 : decode cX11_isWord 6 = .ok (.lstore_n 3, 1) := by decide +kernel
theorem dX11_isWord_7 : decode cX11_isWord 7 = .ok (.iconst 0, 1) := by decide +kernel
theorem dX11_isWord_8 : decode cX11_isWord 8 = .ok (.istore 5, 2) := by decide +kernel
theorem dX11_isWord_10 : decode cX11_isWord 10 = .ok (.aload_n 0, 1) := by decide +kernel
theorem dX11_isWord_11 : decode cX11_isWord 11 = .ok (.aload_n 0, 1) := by decide +kernel
theorem dX11_isWord_12 : decode cX11_isWord 12 = .ok (.getfield 90, 3) := by decide +kernel
theorem dX11_isWord_15 : decode cX11_isWord 15 = .ok (.iload 5, 2) := by decide +kernel
theorem dX11_isWord_17 : decode cX11_isWord 17 = .ok (.iadd, 1) := by decide +kernel
theorem dX11_isWord_18 : decode cX11_isWord 18 = .ok (.invokevirtual 97, 3) := by decide +kernel
theorem dX11_isWord_21 : decode cX11_isWord 21 = .ok (.ifCond .eq 35, 3) := by decide +kernel
theorem dX11_isWord_24 : decode cX11_isWord 24 = .ok (.iload 5, 2) := by decide +kernel
theorem dX11_isWord_26 : decode cX11_isWord 26 = .ok (.bipush 8, 2) := by decide +kernel
theorem dX11_isWord_28 : decode cX11_isWord 28 = .ok (.if_icmp .ge 22, 3) := by decide +kernel
theorem dX11_isWord_31 : decode cX11_isWord 31 = .ok (.lload_n 3, 1) := by decide +kernel
theorem dX11_isWord_32 : decode cX11_isWord 32 = .ok (.bipush 8, 2) := by decide +kernel
theorem dX11_isWord_34 : decode cX11_isWord 34 = .ok (.lshl, 1) := by decide +kernel
theorem dX11_isWord_35 : decode cX11_isWord 35 = .ok (.aload_n 0, 1) := by decide +kernel
theorem dX11_isWord_36 : decode cX11_isWord 36 = .ok (.getfield 7, 3) := by decide +kernel
theorem dX11_isWord_39 : decode cX11_isWord 39 = .ok (.aload_n 0, 1) := by decide +kernel
theorem dX11_isWord_40 : decode cX11_isWord 40 = .ok (.getfield 90, 3) := by decide +kernel
theorem dX11_isWord_43 : decode cX11_isWord 43 = .ok (.iload 5, 2) := by decide +kernel
theorem dX11_isWord_45 : decode cX11_isWord 45 = .ok (.iadd, 1) := by decide +kernel
theorem dX11_isWord_46 : decode cX11_isWord 46 = .ok (.baload, 1) := by decide +kernel
theorem dX11_isWord_47 : decode cX11_isWord 47 = .ok (.i2l, 1) := by decide +kernel
theorem dX11_isWord_48 : decode cX11_isWord 48 = .ok (.lor, 1) := by decide +kernel
theorem dX11_isWord_49 : decode cX11_isWord 49 = .ok (.lstore_n 3, 1) := by decide +kernel
theorem dX11_isWord_50 : decode cX11_isWord 50 = .ok (.iinc 5 1, 3) := by decide +kernel
theorem dX11_isWord_53 : decode cX11_isWord 53 = .ok (.goto (-43), 3) := by decide +kernel
theorem dX11_isWord_56 : decode cX11_isWord 56 = .ok (.iload 5, 2) := by decide +kernel
theorem dX11_isWord_58 : decode cX11_isWord 58 = .ok (.ifCond .le 20, 3) := by decide +kernel
theorem dX11_isWord_78 : decode cX11_isWord 78 = .ok (.iconst 0, 1) := by decide +kernel
theorem dX11_isWord_61 : decode cX11_isWord 61 = .ok (.iload 5, 2) := by decide +kernel
theorem dX11_isWord_63 : decode cX11_isWord 63 = .ok (.bipush 8, 2) := by decide +kernel
theorem dX11_isWord_65 : decode cX11_isWord 65 = .ok (.if_icmp .ge 13, 3) := by decide +kernel
theorem dX11_isWord_68 : decode cX11_isWord 68 = .ok (.lload_n 3, 1) := by decide +kernel
theorem dX11_isWord_69 : decode cX11_isWord 69 = .ok (.lload_n 1, 1) := by decide +kernel
theorem dX11_isWord_70 : decode cX11_isWord 70 = .ok (.lcmp, 1) := by decide +kernel
theorem dX11_isWord_71 : decode cX11_isWord 71 = .ok (.ifCond .ne 7, 3) := by decide +kernel
theorem dX11_isWord_74 : decode cX11_isWord 74 = .ok (.iconst 1, 1) := by decide +kernel
theorem dX11_isWord_75 : decode cX11_isWord 75 = .ok (.goto 4, 3) := by decide +kernel
theorem dX11_isWord_79 : decode cX11_isWord 79 = .ok (.ireturn, 1) := by decide +kernel
theorem dX11_passWord_0 : decode cX11_passWord 0 = .ok (.aload_n 0, 1) := by decide +kernel
theorem dX11_passWord_1 : decode cX11_passWord 1 = .ok (.aload_n 0, 1) := by decide +kernel
theorem dX11_passWord_2 : decode cX11_passWord 2 = .ok (.getfield 90, 3) := by decide +kernel
theorem dX11_passWord_5 : decode cX11_passWord 5 = .ok (.invokevirtual 97, 3) := by decide +kernel
theorem dX11_passWord_8 : decode cX11_passWord 8 = .ok (.ifCond .eq 16, 3) := by decide +kernel
theorem dX11_passWord_11 : decode cX11_passWord 11 = .ok (.aload_n 0, 1) := by decide +kernel
theorem dX11_passWord_12 : decode cX11_passWord 12 = .ok (.dup, 1) := by decide +kernel
theorem dX11_passWord_13 : decode cX11_passWord 13 = .ok (.getfield 90, 3) := by decide +kernel
theorem dX11_passWord_16 : decode cX11_passWord 16 = .ok (.iconst 1, 1) := by decide +kernel
theorem dX11_passWord_17 : decode cX11_passWord 17 = .ok (.iadd, 1) := by decide +kernel
theorem dX11_passWord_18 : decode cX11_passWord 18 = .ok (.putfield 90, 3) := by decide +kernel
theorem dX11_passWord_21 : decode cX11_passWord 21 = .ok (.goto (-21), 3) := by decide +kernel
theorem dX11_passWord_24 : decode cX11_passWord 24 = .ok (.return_, 1) := by decide +kernel
theorem dX11_takesWord_0 : decode cX11_takesWord 0 = .ok (.aload_n 0, 1) := by decide +kernel
theorem dX11_takesWord_1 : decode cX11_takesWord 1 = .ok (.lload_n 1, 1) := by decide +kernel
theorem dX11_takesWord_2 : decode cX11_takesWord 2 = .ok (.invokevirtual 101, 3) := by decide +kernel
theorem dX11_takesWord_5 : decode cX11_takesWord 5 = .ok (.ifCond .ne 5, 3) := by decide +kernel
theorem dX11_takesWord_10 : decode cX11_takesWord 10 = .ok (.aload_n 0, 1) := by decide +kernel
theorem dX11_takesWord_11 : decode cX11_takesWord 11 = .ok (.invokevirtual 105, 3) := by decide +kernel
theorem dX11_takesWord_14 : decode cX11_takesWord 14 = .ok (.iconst 1, 1) := by decide +kernel
theorem dX11_takesWord_8 : decode cX11_takesWord 8 = .ok (.iconst 0, 1) := by decide +kernel
theorem dX11_takesWord_15 : decode cX11_takesWord 15 = .ok (.ireturn, 1) := by decide +kernel
theorem dX11_takesWord_9 : decode cX11_takesWord 9 = .ok (.ireturn, 1) := by decide +kernel
theorem dX11_numberHere_0 : decode cX11_numberHere 0 = .ok (.aload_n 0, 1) := by decide +kernel
theorem dX11_numberHere_1 : decode cX11_numberHere 1 = .ok (.invokevirtual 93, 3) := by decide +kernel
theorem dX11_numberHere_4 : decode cX11_numberHere 4 = .ok (.pop, 1) := by decide +kernel
theorem dX11_numberHere_5 : decode cX11_numberHere 5 = .ok (.aload_n 0, 1) := by decide +kernel
theorem dX11_numberHere_6 : decode cX11_numberHere 6 = .ok (.aload_n 0, 1) := by decide +kernel
theorem dX11_numberHere_7 : decode cX11_numberHere 7 = .ok (.getfield 90, 3) := by decide +kernel
theorem dX11_numberHere_10 : decode cX11_numberHere 10 = .ok (.invokevirtual 108, 3) := by decide +kernel
theorem dX11_numberHere_13 : decode cX11_numberHere 13 = .ok (.ifCond .ne 13, 3) := by decide +kernel
theorem dX11_numberHere_26 : decode cX11_numberHere 26 = .ok (.aload_n 0, 1) := by decide +kernel
theorem dX11_numberHere_27 : decode cX11_numberHere 27 = .ok (.getfield 90, 3) := by decide +kernel
theorem dX11_numberHere_30 : decode cX11_numberHere 30 = .ok (.istore_n 3, 1) := by decide +kernel
theorem dX11_numberHere_31 : decode cX11_numberHere 31 = .ok (.iconst 0, 1) := by decide +kernel
theorem dX11_numberHere_32 : decode cX11_numberHere 32 = .ok (.istore 4, 2) := by decide +kernel
theorem dX11_numberHere_34 : decode cX11_numberHere 34 = .ok (.aload_n 0, 1) := by decide +kernel
theorem dX11_numberHere_35 : decode cX11_numberHere 35 = .ok (.aload_n 0, 1) := by decide +kernel
theorem dX11_numberHere_36 : decode cX11_numberHere 36 = .ok (.getfield 90, 3) := by decide +kernel
theorem dX11_numberHere_39 : decode cX11_numberHere 39 = .ok (.invokevirtual 108, 3) := by decide +kernel
theorem dX11_numberHere_42 : decode cX11_numberHere 42 = .ok (.ifCond .eq 46, 3) := by decide +kernel
theorem dX11_numberHere_45 : decode cX11_numberHere 45 = .ok (.aload_n 0, 1) := by decide +kernel
theorem dX11_numberHere_46 : decode cX11_numberHere 46 = .ok (.getfield 90, 3) := by decide +kernel
theorem dX11_numberHere_49 : decode cX11_numberHere 49 = .ok (.iload_n 3, 1) := by decide +kernel
theorem dX11_numberHere_50 : decode cX11_numberHere 50 = .ok (.isub, 1) := by decide +kernel
theorem dX11_numberHere_51 : decode cX11_numberHere 51 = .ok (.iconst 5, 1) := by decide +kernel
theorem dX11_numberHere_52 : decode cX11_numberHere 52 = .ok (.if_icmp .ge 23, 3) := by decide +kernel
theorem dX11_numberHere_75 : decode cX11_numberHere 75 = .ok (.aload_n 0, 1) := by decide +kernel
theorem dX11_numberHere_76 : decode cX11_numberHere 76 = .ok (.dup, 1) := by decide +kernel
theorem dX11_numberHere_77 : decode cX11_numberHere 77 = .ok (.getfield 90, 3) := by decide +kernel
theorem dX11_numberHere_80 : decode cX11_numberHere 80 = .ok (.iconst 1, 1) := by decide +kernel
theorem dX11_numberHere_81 : decode cX11_numberHere 81 = .ok (.iadd, 1) := by decide +kernel
theorem dX11_numberHere_82 : decode cX11_numberHere 82 = .ok (.putfield 90, 3) := by decide +kernel
theorem dX11_numberHere_85 : decode cX11_numberHere 85 = .ok (.goto (-51), 3) := by decide +kernel
theorem dX11_numberHere_55 : decode cX11_numberHere 55 = .ok (.bipush 10, 2) := by decide +kernel
theorem dX11_numberHere_57 : decode cX11_numberHere 57 = .ok (.iload 4, 2) := by decide +kernel
theorem dX11_numberHere_59 : decode cX11_numberHere 59 = .ok (.imul, 1) := by decide +kernel
theorem dX11_numberHere_60 : decode cX11_numberHere 60 = .ok (.aload_n 0, 1) := by decide +kernel
theorem dX11_numberHere_61 : decode cX11_numberHere 61 = .ok (.getfield 7, 3) := by decide +kernel
theorem dX11_numberHere_64 : decode cX11_numberHere 64 = .ok (.aload_n 0, 1) := by decide +kernel
theorem dX11_numberHere_65 : decode cX11_numberHere 65 = .ok (.getfield 90, 3) := by decide +kernel
theorem dX11_numberHere_68 : decode cX11_numberHere 68 = .ok (.baload, 1) := by decide +kernel
theorem dX11_numberHere_69 : decode cX11_numberHere 69 = .ok (.iadd, 1) := by decide +kernel
theorem dX11_numberHere_70 : decode cX11_numberHere 70 = .ok (.bipush 48, 2) := by decide +kernel
theorem dX11_numberHere_72 : decode cX11_numberHere 72 = .ok (.isub, 1) := by decide +kernel
theorem dX11_numberHere_73 : decode cX11_numberHere 73 = .ok (.istore 4, 2) := by decide +kernel
theorem dX11_numberHere_16 : decode cX11_numberHere 16 = .ok (.aload_n 0, 1) := by decide +kernel
theorem dX11_numberHere_17 : decode cX11_numberHere 17 = .ok (.iconst 0, 1) := by decide +kernel
theorem dX11_numberHere_18 : decode cX11_numberHere 18 = .ok (.aload_n 0, 1) := by decide +kernel
theorem dX11_numberHere_19 : decode cX11_numberHere 19 = .ok (.getfield 90, 3) := by decide +kernel
theorem dX11_numberHere_22 : decode cX11_numberHere 22 = .ok (.invokevirtual 111, 3) := by decide +kernel
theorem dX11_numberHere_88 : decode cX11_numberHere 88 = .ok (.aload_n 0, 1) := by decide +kernel
theorem dX11_numberHere_89 : decode cX11_numberHere 89 = .ok (.iload 4, 2) := by decide +kernel
theorem dX11_numberHere_91 : decode cX11_numberHere 91 = .ok (.putfield 115, 3) := by decide +kernel
theorem dX11_numberHere_94 : decode cX11_numberHere 94 = .ok (.aload_n 0, 1) := by decide +kernel
theorem dX11_numberHere_95 : decode cX11_numberHere 95 = .ok (.getfield 90, 3) := by decide +kernel
theorem dX11_numberHere_98 : decode cX11_numberHere 98 = .ok (.iload_n 3, 1) := by decide +kernel
theorem dX11_numberHere_99 : decode cX11_numberHere 99 = .ok (.isub, 1) := by decide +kernel
theorem dX11_numberHere_100 : decode cX11_numberHere 100 = .ok (.iconst 5, 1) := by decide +kernel
theorem dX11_numberHere_101 : decode cX11_numberHere 101 = .ok (.if_icmp .gt 16, 3) := by decide +kernel
theorem dX11_numberHere_117 : decode cX11_numberHere 117 = .ok (.aload_n 0, 1) := by decide +kernel
theorem dX11_numberHere_118 : decode cX11_numberHere 118 = .ok (.iconst 1, 1) := by decide +kernel
theorem dX11_numberHere_119 : decode cX11_numberHere 119 = .ok (.iload_n 3, 1) := by decide +kernel
theorem dX11_numberHere_120 : decode cX11_numberHere 120 = .ok (.invokevirtual 111, 3) := by decide +kernel
theorem dX11_numberHere_123 : decode cX11_numberHere 123 = .ok (.ifCond .eq 7, 3) := by decide +kernel
theorem dX11_numberHere_130 : decode cX11_numberHere 130 = .ok (.iconst 0, 1) := by decide +kernel
theorem dX11_numberHere_104 : decode cX11_numberHere 104 = .ok (.iload 4, 2) := by decide +kernel
theorem dX11_numberHere_106 : decode cX11_numberHere 106 = .ok (.i2l, 1) := by decide +kernel
theorem dX11_numberHere_107 : decode cX11_numberHere 107 = .ok (.iload_n 1, 1) := by decide +kernel
theorem dX11_numberHere_108 : decode cX11_numberHere 108 = .ok (.i2l, 1) := by decide +kernel
theorem dX11_numberHere_109 : decode cX11_numberHere 109 = .ok (.iload_n 2, 1) := by decide +kernel
theorem dX11_numberHere_110 : decode cX11_numberHere 110 = .ok (.i2l, 1) := by decide +kernel
theorem dX11_numberHere_111 : decode cX11_numberHere 111 = .ok (.invokestatic 118, 3) := by decide +kernel
theorem dX11_numberHere_114 : decode cX11_numberHere 114 = .ok (.ifCond .ne 12, 3) := by decide +kernel
theorem dX11_numberHere_126 : decode cX11_numberHere 126 = .ok (.iconst 1, 1) := by decide +kernel
theorem dX11_numberHere_127 : decode cX11_numberHere 127 = .ok (.goto 4, 3) := by decide +kernel
theorem dX11_numberHere_25 : decode cX11_numberHere 25 = .ok (.ireturn, 1) := by decide +kernel
theorem dX11_numberHere_131 : decode cX11_numberHere 131 = .ok (.ireturn, 1) := by decide +kernel
theorem dX11_wordHere_0 : decode cX11_wordHere 0 = .ok (.aload_n 0, 1) := by decide +kernel
theorem dX11_wordHere_1 : decode cX11_wordHere 1 = .ok (.ldc2_w 122, 3) := by decide +kernel
theorem dX11_wordHere_4 : decode cX11_wordHere 4 = .ok (.invokevirtual 101, 3) := by decide +kernel
theorem dX11_wordHere_7 : decode cX11_wordHere 7 = .ok (.ifCond .eq 5, 3) := by decide +kernel
theorem dX11_wordHere_12 : decode cX11_wordHere 12 = .ok (.aload_n 0, 1) := by decide +kernel
theorem dX11_wordHere_13 : decode cX11_wordHere 13 = .ok (.ldc2_w 124, 3) := by decide +kernel
theorem dX11_wordHere_16 : decode cX11_wordHere 16 = .ok (.invokevirtual 101, 3) := by decide +kernel
theorem dX11_wordHere_19 : decode cX11_wordHere 19 = .ok (.ifCond .eq 5, 3) := by decide +kernel
theorem dX11_wordHere_24 : decode cX11_wordHere 24 = .ok (.aload_n 0, 1) := by decide +kernel
theorem dX11_wordHere_25 : decode cX11_wordHere 25 = .ok (.ldc2_w 126, 3) := by decide +kernel
theorem dX11_wordHere_28 : decode cX11_wordHere 28 = .ok (.invokevirtual 101, 3) := by decide +kernel
theorem dX11_wordHere_31 : decode cX11_wordHere 31 = .ok (.ifCond .eq 5, 3) := by decide +kernel
theorem dX11_wordHere_36 : decode cX11_wordHere 36 = .ok (.aload_n 0, 1) := by decide +kernel
theorem dX11_wordHere_37 : decode cX11_wordHere 37 = .ok (.ldc2_w 128, 3) := by decide +kernel
theorem dX11_wordHere_40 : decode cX11_wordHere 40 = .ok (.invokevirtual 101, 3) := by decide +kernel
theorem dX11_wordHere_43 : decode cX11_wordHere 43 = .ok (.ifCond .eq 5, 3) := by decide +kernel
theorem dX11_wordHere_48 : decode cX11_wordHere 48 = .ok (.aload_n 0, 1) := by decide +kernel
theorem dX11_wordHere_49 : decode cX11_wordHere 49 = .ok (.ldc2_w 130, 3) := by decide +kernel
theorem dX11_wordHere_52 : decode cX11_wordHere 52 = .ok (.invokevirtual 101, 3) := by decide +kernel
theorem dX11_wordHere_55 : decode cX11_wordHere 55 = .ok (.ifCond .eq 5, 3) := by decide +kernel
theorem dX11_wordHere_60 : decode cX11_wordHere 60 = .ok (.aload_n 0, 1) := by decide +kernel
theorem dX11_wordHere_61 : decode cX11_wordHere 61 = .ok (.ldc2_w 132, 3) := by decide +kernel
theorem dX11_wordHere_64 : decode cX11_wordHere 64 = .ok (.invokevirtual 101, 3) := by decide +kernel
theorem dX11_wordHere_67 : decode cX11_wordHere 67 = .ok (.ifCond .eq 5, 3) := by decide +kernel
theorem dX11_wordHere_72 : decode cX11_wordHere 72 = .ok (.aload_n 0, 1) := by decide +kernel
theorem dX11_wordHere_73 : decode cX11_wordHere 73 = .ok (.ldc2_w 134, 3) := by decide +kernel
theorem dX11_wordHere_76 : decode cX11_wordHere 76 = .ok (.invokevirtual 101, 3) := by decide +kernel
theorem dX11_wordHere_79 : decode cX11_wordHere 79 = .ok (.ifCond .eq 6, 3) := by decide +kernel
theorem dX11_wordHere_85 : decode cX11_wordHere 85 = .ok (.aload_n 0, 1) := by decide +kernel
theorem dX11_wordHere_86 : decode cX11_wordHere 86 = .ok (.ldc2_w 136, 3) := by decide +kernel
theorem dX11_wordHere_89 : decode cX11_wordHere 89 = .ok (.invokevirtual 101, 3) := by decide +kernel
theorem dX11_wordHere_92 : decode cX11_wordHere 92 = .ok (.ifCond .eq 6, 3) := by decide +kernel
theorem dX11_wordHere_98 : decode cX11_wordHere 98 = .ok (.aload_n 0, 1) := by decide +kernel
theorem dX11_wordHere_99 : decode cX11_wordHere 99 = .ok (.ldc2_w 138, 3) := by decide +kernel
theorem dX11_wordHere_102 : decode cX11_wordHere 102 = .ok (.invokevirtual 101, 3) := by decide +kernel
theorem dX11_wordHere_105 : decode cX11_wordHere 105 = .ok (.ifCond .eq 6, 3) := by decide +kernel
theorem dX11_wordHere_111 : decode cX11_wordHere 111 = .ok (.aload_n 0, 1) := by decide +kernel
theorem dX11_wordHere_112 : decode cX11_wordHere 112 = .ok (.ldc2_w 140, 3) := by decide +kernel
theorem dX11_wordHere_115 : decode cX11_wordHere 115 = .ok (.invokevirtual 101, 3) := by decide +kernel
theorem dX11_wordHere_118 : decode cX11_wordHere 118 = .ok (.ifCond .eq 8, 3) := by decide +kernel
theorem dX11_wordHere_126 : decode cX11_wordHere 126 = .ok (.aload_n 0, 1) := by decide +kernel
theorem dX11_wordHere_127 : decode cX11_wordHere 127 = .ok (.ldc2_w 142, 3) := by decide +kernel
theorem dX11_wordHere_130 : decode cX11_wordHere 130 = .ok (.invokevirtual 101, 3) := by decide +kernel
theorem dX11_wordHere_133 : decode cX11_wordHere 133 = .ok (.ifCond .eq 8, 3) := by decide +kernel
theorem dX11_wordHere_141 : decode cX11_wordHere 141 = .ok (.iconst (-1), 1) := by decide +kernel
theorem dX11_wordHere_136 : decode cX11_wordHere 136 = .ok (.bipush 10, 2) := by decide +kernel
theorem dX11_wordHere_138 : decode cX11_wordHere 138 = .ok (.goto 4, 3) := by decide +kernel
theorem dX11_wordHere_121 : decode cX11_wordHere 121 = .ok (.bipush 9, 2) := by decide +kernel
theorem dX11_wordHere_123 : decode cX11_wordHere 123 = .ok (.goto 19, 3) := by decide +kernel
theorem dX11_wordHere_108 : decode cX11_wordHere 108 = .ok (.bipush 8, 2) := by decide +kernel
theorem dX11_wordHere_95 : decode cX11_wordHere 95 = .ok (.bipush 7, 2) := by decide +kernel
theorem dX11_wordHere_82 : decode cX11_wordHere 82 = .ok (.bipush 6, 2) := by decide +kernel
theorem dX11_wordHere_70 : decode cX11_wordHere 70 = .ok (.iconst 5, 1) := by decide +kernel
theorem dX11_wordHere_58 : decode cX11_wordHere 58 = .ok (.iconst 4, 1) := by decide +kernel
theorem dX11_wordHere_46 : decode cX11_wordHere 46 = .ok (.iconst 3, 1) := by decide +kernel
theorem dX11_wordHere_34 : decode cX11_wordHere 34 = .ok (.iconst 2, 1) := by decide +kernel
theorem dX11_wordHere_22 : decode cX11_wordHere 22 = .ok (.iconst 1, 1) := by decide +kernel
theorem dX11_wordHere_10 : decode cX11_wordHere 10 = .ok (.iconst 0, 1) := by decide +kernel
theorem dX11_wordHere_142 : decode cX11_wordHere 142 = .ok (.ireturn, 1) := by decide +kernel
theorem dX11_wordHere_110 : decode cX11_wordHere 110 = .ok (.ireturn, 1) := by decide +kernel
theorem dX11_wordHere_97 : decode cX11_wordHere 97 = .ok (.ireturn, 1) := by decide +kernel
theorem dX11_wordHere_84 : decode cX11_wordHere 84 = .ok (.ireturn, 1) := by decide +kernel
theorem dX11_wordHere_71 : decode cX11_wordHere 71 = .ok (.ireturn, 1) := by decide +kernel
theorem dX11_wordHere_59 : decode cX11_wordHere 59 = .ok (.ireturn, 1) := by decide +kernel
theorem dX11_wordHere_47 : decode cX11_wordHere 47 = .ok (.ireturn, 1) := by decide +kernel
theorem dX11_wordHere_35 : decode cX11_wordHere 35 = .ok (.ireturn, 1) := by decide +kernel
theorem dX11_wordHere_23 : decode cX11_wordHere 23 = .ok (.ireturn, 1) := by decide +kernel
theorem dX11_wordHere_11 : decode cX11_wordHere 11 = .ok (.ireturn, 1) := by decide +kernel
theorem dX11_makes_0 : decode cX11_makes 0 = .ok (.aload_n 0, 1) := by decide +kernel
theorem dX11_makes_1 : decode cX11_makes 1 = .ok (.getfield 147, 3) := by decide +kernel
theorem dX11_makes_4 : decode cX11_makes 4 = .ok (.bipush 60, 2) := by decide +kernel
theorem dX11_makes_6 : decode cX11_makes 6 = .ok (.if_icmp .ne 10, 3) := by decide +kernel
theorem dX11_makes_16 : decode cX11_makes 16 = .ok (.aload_n 0, 1) := by decide +kernel
theorem dX11_makes_17 : decode cX11_makes 17 = .ok (.dup, 1) := by decide +kernel
theorem dX11_makes_18 : decode cX11_makes 18 = .ok (.getfield 147, 3) := by decide +kernel
theorem dX11_makes_21 : decode cX11_makes 21 = .ok (.iconst 1, 1) := by decide +kernel
theorem dX11_makes_22 : decode cX11_makes 22 = .ok (.iadd, 1) := by decide +kernel
theorem dX11_makes_23 : decode cX11_makes 23 = .ok (.putfield 147, 3) := by decide +kernel
theorem dX11_makes_26 : decode cX11_makes 26 = .ok (.iconst 1, 1) := by decide +kernel
theorem dX11_makes_9 : decode cX11_makes 9 = .ok (.aload_n 0, 1) := by decide +kernel
theorem dX11_makes_10 : decode cX11_makes 10 = .ok (.iconst 3, 1) := by decide +kernel
theorem dX11_makes_11 : decode cX11_makes 11 = .ok (.iload_n 1, 1) := by decide +kernel
theorem dX11_makes_12 : decode cX11_makes 12 = .ok (.invokevirtual 111, 3) := by decide +kernel
theorem dX11_makes_27 : decode cX11_makes 27 = .ok (.ireturn, 1) := by decide +kernel
theorem dX11_makes_15 : decode cX11_makes 15 = .ok (.ireturn, 1) := by decide +kernel
theorem dX11_puts_0 : decode cX11_puts 0 = .ok (.aload_n 0, 1) := by decide +kernel
theorem dX11_puts_1 : decode cX11_puts 1 = .ok (.getfield 13, 3) := by decide +kernel
theorem dX11_puts_4 : decode cX11_puts 4 = .ok (.sipush 400, 3) := by decide +kernel
theorem dX11_puts_7 : decode cX11_puts 7 = .ok (.aload_n 0, 1) := by decide +kernel
theorem dX11_puts_8 : decode cX11_puts 8 = .ok (.getfield 144, 3) := by decide +kernel
theorem dX11_puts_11 : decode cX11_puts 11 = .ok (.imul, 1) := by decide +kernel
theorem dX11_puts_12 : decode cX11_puts 12 = .ok (.aload_n 0, 1) := by decide +kernel
theorem dX11_puts_13 : decode cX11_puts 13 = .ok (.getfield 17, 3) := by decide +kernel
theorem dX11_puts_16 : decode cX11_puts 16 = .ok (.aload_n 0, 1) := by decide +kernel
theorem dX11_puts_17 : decode cX11_puts 17 = .ok (.getfield 144, 3) := by decide +kernel
theorem dX11_puts_20 : decode cX11_puts 20 = .ok (.iaload, 1) := by decide +kernel
theorem dX11_puts_21 : decode cX11_puts 21 = .ok (.iadd, 1) := by decide +kernel
theorem dX11_puts_22 : decode cX11_puts 22 = .ok (.iload_n 1, 1) := by decide +kernel
theorem dX11_puts_23 : decode cX11_puts 23 = .ok (.bipush 16, 2) := by decide +kernel
theorem dX11_puts_25 : decode cX11_puts 25 = .ok (.iload_n 2, 1) := by decide +kernel
theorem dX11_puts_26 : decode cX11_puts 26 = .ok (.imul, 1) := by decide +kernel
theorem dX11_puts_27 : decode cX11_puts 27 = .ok (.iadd, 1) := by decide +kernel
theorem dX11_puts_28 : decode cX11_puts 28 = .ok (.iastore, 1) := by decide +kernel
theorem dX11_puts_29 : decode cX11_puts 29 = .ok (.aload_n 0, 1) := by decide +kernel
theorem dX11_puts_30 : decode cX11_puts 30 = .ok (.getfield 17, 3) := by decide +kernel
theorem dX11_puts_33 : decode cX11_puts 33 = .ok (.aload_n 0, 1) := by decide +kernel
theorem dX11_puts_34 : decode cX11_puts 34 = .ok (.getfield 144, 3) := by decide +kernel
theorem dX11_puts_37 : decode cX11_puts 37 = .ok (.dup2, 1) := by decide +kernel
theorem dX11_puts_38 : decode cX11_puts 38 = .ok (.iaload, 1) := by decide +kernel
theorem dX11_puts_39 : decode cX11_puts 39 = .ok (.iconst 1, 1) := by decide +kernel
theorem dX11_puts_40 : decode cX11_puts 40 = .ok (.iadd, 1) := by decide +kernel
theorem dX11_puts_41 : decode cX11_puts 41 = .ok (.iastore, 1) := by decide +kernel
theorem dX11_puts_42 : decode cX11_puts 42 = .ok (.return_, 1) := by decide +kernel
theorem dX11_strength_0 : decode cX11_strength 0 = .ok (.iload_n 0, 1) := by decide +kernel
theorem dX11_strength_1 : decode cX11_strength 1 = .ok (.bipush 13, 2) := by decide +kernel
theorem dX11_strength_3 : decode cX11_strength 3 = .ok (.if_icmp .ne 7, 3) := by decide +kernel
theorem dX11_strength_10 : decode cX11_strength 10 = .ok (.iload_n 0, 1) := by decide +kernel
theorem dX11_strength_11 : decode cX11_strength 11 = .ok (.bipush 12, 2) := by decide +kernel
theorem dX11_strength_13 : decode cX11_strength 13 = .ok (.if_icmp .ne 7, 3) := by decide +kernel
theorem dX11_strength_20 : decode cX11_strength 20 = .ok (.iload_n 0, 1) := by decide +kernel
theorem dX11_strength_21 : decode cX11_strength 21 = .ok (.bipush 11, 2) := by decide +kernel
theorem dX11_strength_23 : decode cX11_strength 23 = .ok (.if_icmp .ne 7, 3) := by decide +kernel
theorem dX11_strength_30 : decode cX11_strength 30 = .ok (.iconst 0, 1) := by decide +kernel
theorem dX11_strength_31 : decode cX11_strength 31 = .ok (.ireturn, 1) := by decide +kernel
theorem dX11_strength_26 : decode cX11_strength 26 = .ok (.iconst 3, 1) := by decide +kernel
theorem dX11_strength_27 : decode cX11_strength 27 = .ok (.goto 4, 3) := by decide +kernel
theorem dX11_strength_16 : decode cX11_strength 16 = .ok (.iconst 2, 1) := by decide +kernel
theorem dX11_strength_17 : decode cX11_strength 17 = .ok (.goto 14, 3) := by decide +kernel
theorem dX11_strength_6 : decode cX11_strength 6 = .ok (.iconst 1, 1) := by decide +kernel
theorem dX11_strength_7 : decode cX11_strength 7 = .ok (.goto 24, 3) := by decide +kernel
theorem dX11_opens_0 : decode cX11_opens 0 = .ok (.aload_n 0, 1) := by decide +kernel
theorem dX11_opens_1 : decode cX11_opens 1 = .ok (.getfield 150, 3) := by decide +kernel
theorem dX11_opens_4 : decode cX11_opens 4 = .ok (.bipush 10, 2) := by decide +kernel
theorem dX11_opens_6 : decode cX11_opens 6 = .ok (.if_icmp .ne 13, 3) := by decide +kernel
theorem dX11_opens_19 : decode cX11_opens 19 = .ok (.aload_n 0, 1) := by decide +kernel
theorem dX11_opens_20 : decode cX11_opens 20 = .ok (.dup, 1) := by decide +kernel
theorem dX11_opens_21 : decode cX11_opens 21 = .ok (.getfield 150, 3) := by decide +kernel
theorem dX11_opens_24 : decode cX11_opens 24 = .ok (.iconst 1, 1) := by decide +kernel
theorem dX11_opens_25 : decode cX11_opens 25 = .ok (.iadd, 1) := by decide +kernel
theorem dX11_opens_26 : decode cX11_opens 26 = .ok (.putfield 150, 3) := by decide +kernel
theorem dX11_opens_29 : decode cX11_opens 29 = .ok (.aload_n 0, 1) := by decide +kernel
theorem dX11_opens_30 : decode cX11_opens 30 = .ok (.getfield 29, 3) := by decide +kernel
theorem dX11_opens_33 : decode cX11_opens 33 = .ok (.aload_n 0, 1) := by decide +kernel
theorem dX11_opens_34 : decode cX11_opens 34 = .ok (.getfield 153, 3) := by decide +kernel
theorem dX11_opens_37 : decode cX11_opens 37 = .ok (.iload_n 1, 1) := by decide +kernel
theorem dX11_opens_38 : decode cX11_opens 38 = .ok (.iastore, 1) := by decide +kernel
theorem dX11_opens_39 : decode cX11_opens 39 = .ok (.aload_n 0, 1) := by decide +kernel
theorem dX11_opens_40 : decode cX11_opens 40 = .ok (.dup, 1) := by decide +kernel
theorem dX11_opens_41 : decode cX11_opens 41 = .ok (.getfield 153, 3) := by decide +kernel
theorem dX11_opens_44 : decode cX11_opens 44 = .ok (.iconst 1, 1) := by decide +kernel
theorem dX11_opens_45 : decode cX11_opens 45 = .ok (.iadd, 1) := by decide +kernel
theorem dX11_opens_46 : decode cX11_opens 46 = .ok (.putfield 153, 3) := by decide +kernel
theorem dX11_opens_49 : decode cX11_opens 49 = .ok (.iconst 1, 1) := by decide +kernel
theorem dX11_opens_9 : decode cX11_opens 9 = .ok (.aload_n 0, 1) := by decide +kernel
theorem dX11_opens_10 : decode cX11_opens 10 = .ok (.iconst 2, 1) := by decide +kernel
theorem dX11_opens_11 : decode cX11_opens 11 = .ok (.aload_n 0, 1) := by decide +kernel
theorem dX11_opens_12 : decode cX11_opens 12 = .ok (.getfield 90, 3) := by decide +kernel
theorem dX11_opens_15 : decode cX11_opens 15 = .ok (.invokevirtual 111, 3) := by decide +kernel
theorem dX11_opens_50 : decode cX11_opens 50 = .ok (.ireturn, 1) := by decide +kernel
theorem dX11_opens_18 : decode cX11_opens 18 = .ok (.ireturn, 1) := by decide +kernel
theorem dX11_isInside_0 : decode cX11_isInside 0 = .ok (.iconst 0, 1) := by decide +kernel
theorem dX11_isInside_1 : decode cX11_isInside 1 = .ok (.istore_n 1, 1) := by decide +kernel
theorem dX11_isInside_2 : decode cX11_isInside 2 = .ok (.iload_n 1, 1) := by decide +kernel
theorem dX11_isInside_3 : decode cX11_isInside 3 = .ok (.aload_n 0, 1) := by decide +kernel
theorem dX11_isInside_4 : decode cX11_isInside 4 = .ok (.getfield 153, 3) := by decide +kernel
theorem dX11_isInside_7 : decode cX11_isInside 7 = .ok (.if_icmp .ge 22, 3) := by decide +kernel
theorem dX11_isInside_10 : decode cX11_isInside 10 = .ok (.aload_n 0, 1) := by decide +kernel
theorem dX11_isInside_11 : decode cX11_isInside 11 = .ok (.getfield 29, 3) := by decide +kernel
theorem dX11_isInside_14 : decode cX11_isInside 14 = .ok (.iload_n 1, 1) := by decide +kernel
theorem dX11_isInside_15 : decode cX11_isInside 15 = .ok (.iaload, 1) := by decide +kernel
theorem dX11_isInside_16 : decode cX11_isInside 16 = .ok (.bipush 91, 2) := by decide +kernel
theorem dX11_isInside_18 : decode cX11_isInside 18 = .ok (.if_icmp .ne 5, 3) := by decide +kernel
theorem dX11_isInside_23 : decode cX11_isInside 23 = .ok (.iinc 1 1, 3) := by decide +kernel
theorem dX11_isInside_26 : decode cX11_isInside 26 = .ok (.goto (-24), 3) := by decide +kernel
theorem dX11_isInside_21 : decode cX11_isInside 21 = .ok (.iconst 1, 1) := by decide +kernel
theorem dX11_isInside_22 : decode cX11_isInside 22 = .ok (.ireturn, 1) := by decide +kernel
theorem dX11_isInside_29 : decode cX11_isInside 29 = .ok (.iconst 0, 1) := by decide +kernel
theorem dX11_isInside_30 : decode cX11_isInside 30 = .ok (.ireturn, 1) := by decide +kernel
